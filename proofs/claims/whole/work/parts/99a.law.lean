section Law
variable {l : Launch} {L : Nat} {xs : Nat → Int} {b : Nat × Nat} {M : ev_M} {i : Int} {Q : Option ev_V → List ev_Sh → ev_M → Prop}
abbrev kL_law : ev_K := (code, RL, 4, ret, false)
abbrev ls_L (i : Int) : List (Option ev_V) := [some vs, some (vr 0), some (vr 100), some (vi i)]
set_option maxHeartbeats 1000000 in
theorem L_add (hL : L ≤ 3584) (hxs : ∀ j, inR (xs j)) (hi : 0 ≤ i ∧ i + 7 ≤ (L : Int)) (h : Rel M) (K : ∀ M2, Rel M2 → Ev l (some (L, xs)) 12 kL_law b S0 M2 891 (ls_L i) [] Q) : Ev l (some (L, xs)) 12 kL_law b S0 M 140 (ls_L i) [] Q := by
  refine ev_aload_1 (q := 141) dL_law_140 rfl ?_
  refine ev_aload_0 (q := 142) dL_law_141 rfl ?_
  refine ev_iload_3 (q := 143) dL_law_142 rfl ?_
  refine ev_iconst (q := 144) dL_law_143 rfl ?_
  refine ev_iadd (q := 145) dL_law_144 rfl ?_
  refine ev_sld (q := 146) rfl dL_law_145 (by omega) (by omega) rfl ?_
  refine ev_aload_0 (q := 147) dL_law_146 rfl ?_
  refine ev_iload_3 (q := 148) dL_law_147 rfl ?_
  refine ev_iconst (q := 149) dL_law_148 rfl ?_
  refine ev_iadd (q := 150) dL_law_149 rfl ?_
  refine ev_sld (q := 151) rfl dL_law_150 (by omega) (by omega) rfl ?_
  refine ev_aload_0 (q := 152) dL_law_151 rfl ?_
  refine ev_iload_3 (q := 153) dL_law_152 rfl ?_
  refine ev_iconst (q := 154) dL_law_153 rfl ?_
  refine ev_iadd (q := 155) dL_law_154 rfl ?_
  refine ev_sld (q := 156) rfl dL_law_155 (by omega) (by omega) rfl ?_
  refine ev_callV3iR (q := 159) dL_law_156 vs_RL_13 (by rfl) (p_add (hxs _) (hxs _) (hxs _) h.1) (by decide) (Nat.le_of_ble_eq_true rfl) rfl (fun z1 M1 hc i1 => ?_)
  have g := hi_add h hc
  refine ev_aload_2 (q := 160) dL_law_159 rfl ?_
  refine ev_aload_0 (q := 161) dL_law_160 rfl ?_
  refine ev_iload_3 (q := 162) dL_law_161 rfl ?_
  refine ev_iconst (q := 163) dL_law_162 rfl ?_
  refine ev_iadd (q := 164) dL_law_163 rfl ?_
  refine ev_sld (q := 165) rfl dL_law_164 (by omega) (by omega) rfl ?_
  refine ev_aload_0 (q := 166) dL_law_165 rfl ?_
  refine ev_iload_3 (q := 167) dL_law_166 rfl ?_
  refine ev_iconst (q := 168) dL_law_167 rfl ?_
  refine ev_iadd (q := 169) dL_law_168 rfl ?_
  refine ev_sld (q := 170) rfl dL_law_169 (by omega) (by omega) rfl ?_
  refine ev_aload_0 (q := 171) dL_law_170 rfl ?_
  refine ev_iload_3 (q := 172) dL_law_171 rfl ?_
  refine ev_iconst (q := 173) dL_law_172 rfl ?_
  refine ev_iadd (q := 174) dL_law_173 rfl ?_
  refine ev_sld (q := 175) rfl dL_law_174 (by omega) (by omega) rfl ?_
  refine ev_callV3iR (q := 178) dL_law_175 vs_RL_17 (by rfl) (m_add (v := cV M 1) (h.ag g) h.1.1 (h.hh g) (hxs _) (hxs _) (hxs _)) (by decide) (Nat.le_of_ble_eq_true rfl) rfl (fun z2 M2 hm i2 => ?_)
  exact ev_icmp_eq (t := 891) (q := 181) dL_law_178 (by decide) rfl i1 i2 (fun _ => K M2 (e_add h hc hm).2) (fun hne => absurd (e_add h hc hm).1 hne)
set_option maxHeartbeats 1000000 in
theorem L_remove (hL : L ≤ 3584) (hxs : ∀ j, inR (xs j)) (hi : 0 ≤ i ∧ i + 7 ≤ (L : Int)) (h : Rel M) (K : ∀ M2, Rel M2 → Ev l (some (L, xs)) 12 kL_law b S0 M2 891 (ls_L i) [] Q) : Ev l (some (L, xs)) 12 kL_law b S0 M 183 (ls_L i) [] Q := by
  refine ev_aload_1 (q := 184) dL_law_183 rfl ?_
  refine ev_callV0iR (q := 187) dL_law_184 vs_RL_18 (by rfl) (p_remove  h.1) (by decide) (Nat.le_of_ble_eq_true rfl) rfl (fun z1 M1 hc i1 => ?_)
  have g := hi_remove h hc
  refine ev_aload_2 (q := 188) dL_law_187 rfl ?_
  refine ev_callV0iR (q := 191) dL_law_188 vs_RL_22 (by rfl) (m_remove (v := cV M 1) (h.ag g) h.1.1 (h.hh g) ) (by decide) (Nat.le_of_ble_eq_true rfl) rfl (fun z2 M2 hm i2 => ?_)
  exact ev_icmp_eq (t := 891) (q := 194) dL_law_191 (by decide) rfl i1 i2 (fun _ => K M2 (e_remove h hc hm).2) (fun hne => absurd (e_remove h hc hm).1 hne)
set_option maxHeartbeats 1000000 in
theorem L_dress (hL : L ≤ 3584) (hxs : ∀ j, inR (xs j)) (hi : 0 ≤ i ∧ i + 7 ≤ (L : Int)) (h : Rel M) (K : ∀ M2, Rel M2 → Ev l (some (L, xs)) 12 kL_law b S0 M2 891 (ls_L i) [] Q) : Ev l (some (L, xs)) 12 kL_law b S0 M 196 (ls_L i) [] Q := by
  refine ev_aload_1 (q := 197) dL_law_196 rfl ?_
  refine ev_aload_0 (q := 198) dL_law_197 rfl ?_
  refine ev_iload_3 (q := 199) dL_law_198 rfl ?_
  refine ev_iconst (q := 200) dL_law_199 rfl ?_
  refine ev_iadd (q := 201) dL_law_200 rfl ?_
  refine ev_sld (q := 202) rfl dL_law_201 (by omega) (by omega) rfl ?_
  refine ev_aload_0 (q := 203) dL_law_202 rfl ?_
  refine ev_iload_3 (q := 204) dL_law_203 rfl ?_
  refine ev_iconst (q := 205) dL_law_204 rfl ?_
  refine ev_iadd (q := 206) dL_law_205 rfl ?_
  refine ev_sld (q := 207) rfl dL_law_206 (by omega) (by omega) rfl ?_
  refine ev_aload_0 (q := 208) dL_law_207 rfl ?_
  refine ev_iload_3 (q := 209) dL_law_208 rfl ?_
  refine ev_iconst (q := 210) dL_law_209 rfl ?_
  refine ev_iadd (q := 211) dL_law_210 rfl ?_
  refine ev_sld (q := 212) rfl dL_law_211 (by omega) (by omega) rfl ?_
  refine ev_callV3iR (q := 215) dL_law_212 vs_RL_23 (by rfl) (p_dress (hxs _) (hxs _) (hxs _) h.1) (by decide) (Nat.le_of_ble_eq_true rfl) rfl (fun z1 M1 hc i1 => ?_)
  have g := hi_dress h hc
  refine ev_aload_2 (q := 216) dL_law_215 rfl ?_
  refine ev_aload_0 (q := 217) dL_law_216 rfl ?_
  refine ev_iload_3 (q := 218) dL_law_217 rfl ?_
  refine ev_iconst (q := 219) dL_law_218 rfl ?_
  refine ev_iadd (q := 220) dL_law_219 rfl ?_
  refine ev_sld (q := 221) rfl dL_law_220 (by omega) (by omega) rfl ?_
  refine ev_aload_0 (q := 222) dL_law_221 rfl ?_
  refine ev_iload_3 (q := 223) dL_law_222 rfl ?_
  refine ev_iconst (q := 224) dL_law_223 rfl ?_
  refine ev_iadd (q := 225) dL_law_224 rfl ?_
  refine ev_sld (q := 226) rfl dL_law_225 (by omega) (by omega) rfl ?_
  refine ev_aload_0 (q := 227) dL_law_226 rfl ?_
  refine ev_iload_3 (q := 228) dL_law_227 rfl ?_
  refine ev_iconst (q := 229) dL_law_228 rfl ?_
  refine ev_iadd (q := 230) dL_law_229 rfl ?_
  refine ev_sld (q := 231) rfl dL_law_230 (by omega) (by omega) rfl ?_
  refine ev_callV3iR (q := 234) dL_law_231 vs_RL_26 (by rfl) (m_dress (v := cV M 1) (h.ag g) h.1.1 (h.hh g) (hxs _) (hxs _) (hxs _)) (by decide) (Nat.le_of_ble_eq_true rfl) rfl (fun z2 M2 hm i2 => ?_)
  exact ev_icmp_eq (t := 891) (q := 237) dL_law_234 (by decide) rfl i1 i2 (fun _ => K M2 (e_dress h hc hm).2) (fun hne => absurd (e_dress h hc hm).1 hne)
set_option maxHeartbeats 1000000 in
theorem L_element (hL : L ≤ 3584) (hxs : ∀ j, inR (xs j)) (hi : 0 ≤ i ∧ i + 7 ≤ (L : Int)) (h : Rel M) (K : ∀ M2, Rel M2 → Ev l (some (L, xs)) 12 kL_law b S0 M2 891 (ls_L i) [] Q) : Ev l (some (L, xs)) 12 kL_law b S0 M 239 (ls_L i) [] Q := by
  refine ev_aload_1 (q := 240) dL_law_239 rfl ?_
  refine ev_aload_0 (q := 241) dL_law_240 rfl ?_
  refine ev_iload_3 (q := 242) dL_law_241 rfl ?_
  refine ev_iconst (q := 243) dL_law_242 rfl ?_
  refine ev_iadd (q := 244) dL_law_243 rfl ?_
  refine ev_sld (q := 245) rfl dL_law_244 (by omega) (by omega) rfl ?_
  refine ev_aload_0 (q := 246) dL_law_245 rfl ?_
  refine ev_iload_3 (q := 247) dL_law_246 rfl ?_
  refine ev_iconst (q := 248) dL_law_247 rfl ?_
  refine ev_iadd (q := 249) dL_law_248 rfl ?_
  refine ev_sld (q := 250) rfl dL_law_249 (by omega) (by omega) rfl ?_
  refine ev_callV2iR (q := 253) dL_law_250 vs_RL_27 (by rfl) (p_element (hxs _) (hxs _) h.1) (by decide) (Nat.le_of_ble_eq_true rfl) rfl (fun z1 M1 hc i1 => ?_)
  have g := hi_element h hc
  refine ev_aload_2 (q := 254) dL_law_253 rfl ?_
  refine ev_aload_0 (q := 255) dL_law_254 rfl ?_
  refine ev_iload_3 (q := 256) dL_law_255 rfl ?_
  refine ev_iconst (q := 257) dL_law_256 rfl ?_
  refine ev_iadd (q := 258) dL_law_257 rfl ?_
  refine ev_sld (q := 259) rfl dL_law_258 (by omega) (by omega) rfl ?_
  refine ev_aload_0 (q := 260) dL_law_259 rfl ?_
  refine ev_iload_3 (q := 261) dL_law_260 rfl ?_
  refine ev_iconst (q := 262) dL_law_261 rfl ?_
  refine ev_iadd (q := 263) dL_law_262 rfl ?_
  refine ev_sld (q := 264) rfl dL_law_263 (by omega) (by omega) rfl ?_
  refine ev_callV2iR (q := 267) dL_law_264 vs_RL_31 (by rfl) (m_element (v := cV M 1) (h.ag g) h.1.1 (hxs _) (hxs _)) (by decide) (Nat.le_of_ble_eq_true rfl) rfl (fun z2 M2 hm i2 => ?_)
  exact ev_icmp_eq (t := 891) (q := 270) dL_law_267 (by decide) rfl i1 i2 (fun _ => K M2 (e_element h hc hm).2) (fun hne => absurd (e_element h hc hm).1 hne)
set_option maxHeartbeats 1000000 in
theorem L_count (hL : L ≤ 3584) (hxs : ∀ j, inR (xs j)) (hi : 0 ≤ i ∧ i + 7 ≤ (L : Int)) (h : Rel M) (K : ∀ M2, Rel M2 → Ev l (some (L, xs)) 12 kL_law b S0 M2 891 (ls_L i) [] Q) : Ev l (some (L, xs)) 12 kL_law b S0 M 272 (ls_L i) [] Q := by
  refine ev_aload_1 (q := 273) dL_law_272 rfl ?_
  refine ev_aload_0 (q := 274) dL_law_273 rfl ?_
  refine ev_iload_3 (q := 275) dL_law_274 rfl ?_
  refine ev_iconst (q := 276) dL_law_275 rfl ?_
  refine ev_iadd (q := 277) dL_law_276 rfl ?_
  refine ev_sld (q := 278) rfl dL_law_277 (by omega) (by omega) rfl ?_
  refine ev_callV1iR (q := 281) dL_law_278 vs_RL_32 (by rfl) (p_count (hxs _) h.1) (by decide) (Nat.le_of_ble_eq_true rfl) rfl (fun z1 M1 hc i1 => ?_)
  have g := hi_count h hc
  refine ev_aload_2 (q := 282) dL_law_281 rfl ?_
  refine ev_aload_0 (q := 283) dL_law_282 rfl ?_
  refine ev_iload_3 (q := 284) dL_law_283 rfl ?_
  refine ev_iconst (q := 285) dL_law_284 rfl ?_
  refine ev_iadd (q := 286) dL_law_285 rfl ?_
  refine ev_sld (q := 287) rfl dL_law_286 (by omega) (by omega) rfl ?_
  refine ev_callV1iR (q := 290) dL_law_287 vs_RL_36 (by rfl) (m_count (v := cV M 1) (h.ag g) h.1.1 (hxs _)) (by decide) (Nat.le_of_ble_eq_true rfl) rfl (fun z2 M2 hm i2 => ?_)
  exact ev_icmp_eq (t := 891) (q := 293) dL_law_290 (by decide) rfl i1 i2 (fun _ => K M2 (e_count h hc hm).2) (fun hne => absurd (e_count h hc hm).1 hne)
set_option maxHeartbeats 1000000 in
theorem L_undo (hL : L ≤ 3584) (hxs : ∀ j, inR (xs j)) (hi : 0 ≤ i ∧ i + 7 ≤ (L : Int)) (h : Rel M) (K : ∀ M2, Rel M2 → Ev l (some (L, xs)) 12 kL_law b S0 M2 891 (ls_L i) [] Q) : Ev l (some (L, xs)) 12 kL_law b S0 M 295 (ls_L i) [] Q := by
  refine ev_aload_1 (q := 296) dL_law_295 rfl ?_
  refine ev_callV0iR (q := 299) dL_law_296 vs_RL_37 (by rfl) (p_undo  h.1) (by decide) (Nat.le_of_ble_eq_true rfl) rfl (fun z1 M1 hc i1 => ?_)
  have g := hi_undo h hc
  refine ev_aload_2 (q := 300) dL_law_299 rfl ?_
  refine ev_callV0iR (q := 303) dL_law_300 vs_RL_40 (by rfl) (m_undo (h.hh g)) (by decide) (Nat.le_of_ble_eq_true rfl) rfl (fun z2 M2 hm i2 => ?_)
  exact ev_icmp_eq (t := 891) (q := 306) dL_law_303 (by decide) rfl i1 i2 (fun _ => K M2 (e_undo h hc hm).2) (fun hne => absurd (e_undo h hc hm).1 hne)
set_option maxHeartbeats 1000000 in
theorem L_rule (hL : L ≤ 3584) (hxs : ∀ j, inR (xs j)) (hi : 0 ≤ i ∧ i + 7 ≤ (L : Int)) (h : Rel M) (K : ∀ M2, Rel M2 → Ev l (some (L, xs)) 12 kL_law b S0 M2 891 (ls_L i) [] Q) : Ev l (some (L, xs)) 12 kL_law b S0 M 308 (ls_L i) [] Q := by
  refine ev_aload_1 (q := 309) dL_law_308 rfl ?_
  refine ev_aload_0 (q := 310) dL_law_309 rfl ?_
  refine ev_iload_3 (q := 311) dL_law_310 rfl ?_
  refine ev_iconst (q := 312) dL_law_311 rfl ?_
  refine ev_iadd (q := 313) dL_law_312 rfl ?_
  refine ev_sld (q := 314) rfl dL_law_313 (by omega) (by omega) rfl ?_
  refine ev_aload_0 (q := 315) dL_law_314 rfl ?_
  refine ev_iload_3 (q := 316) dL_law_315 rfl ?_
  refine ev_iconst (q := 317) dL_law_316 rfl ?_
  refine ev_iadd (q := 318) dL_law_317 rfl ?_
  refine ev_sld (q := 319) rfl dL_law_318 (by omega) (by omega) rfl ?_
  refine ev_aload_0 (q := 320) dL_law_319 rfl ?_
  refine ev_iload_3 (q := 321) dL_law_320 rfl ?_
  refine ev_iconst (q := 322) dL_law_321 rfl ?_
  refine ev_iadd (q := 323) dL_law_322 rfl ?_
  refine ev_sld (q := 324) rfl dL_law_323 (by omega) (by omega) rfl ?_
  refine ev_aload_0 (q := 325) dL_law_324 rfl ?_
  refine ev_iload_3 (q := 326) dL_law_325 rfl ?_
  refine ev_iconst (q := 327) dL_law_326 rfl ?_
  refine ev_iadd (q := 328) dL_law_327 rfl ?_
  refine ev_sld (q := 329) rfl dL_law_328 (by omega) (by omega) rfl ?_
  refine ev_aload_0 (q := 330) dL_law_329 rfl ?_
  refine ev_iload_3 (q := 331) dL_law_330 rfl ?_
  refine ev_iconst (q := 332) dL_law_331 rfl ?_
  refine ev_iadd (q := 333) dL_law_332 rfl ?_
  refine ev_sld (q := 334) rfl dL_law_333 (by omega) (by omega) rfl ?_
  refine ev_aload_0 (q := 335) dL_law_334 rfl ?_
  refine ev_iload_3 (q := 336) dL_law_335 rfl ?_
  refine ev_bipush (q := 338) dL_law_336 rfl (by decide) ?_
  refine ev_iadd (q := 339) dL_law_338 rfl ?_
  refine ev_sld (q := 340) rfl dL_law_339 (by omega) (by omega) rfl ?_
  refine ev_callV6iR (q := 343) dL_law_340 vs_RL_41 (by rfl) (p_rule (hxs _) (hxs _) (hxs _) (hxs _) (hxs _) (hxs _) h.1) (by decide) (Nat.le_of_ble_eq_true rfl) rfl (fun z1 M1 hc i1 => ?_)
  have g := hi_rule h hc
  refine ev_aload_2 (q := 344) dL_law_343 rfl ?_
  refine ev_aload_0 (q := 345) dL_law_344 rfl ?_
  refine ev_iload_3 (q := 346) dL_law_345 rfl ?_
  refine ev_iconst (q := 347) dL_law_346 rfl ?_
  refine ev_iadd (q := 348) dL_law_347 rfl ?_
  refine ev_sld (q := 349) rfl dL_law_348 (by omega) (by omega) rfl ?_
  refine ev_aload_0 (q := 350) dL_law_349 rfl ?_
  refine ev_iload_3 (q := 351) dL_law_350 rfl ?_
  refine ev_iconst (q := 352) dL_law_351 rfl ?_
  refine ev_iadd (q := 353) dL_law_352 rfl ?_
  refine ev_sld (q := 354) rfl dL_law_353 (by omega) (by omega) rfl ?_
  refine ev_aload_0 (q := 355) dL_law_354 rfl ?_
  refine ev_iload_3 (q := 356) dL_law_355 rfl ?_
  refine ev_iconst (q := 357) dL_law_356 rfl ?_
  refine ev_iadd (q := 358) dL_law_357 rfl ?_
  refine ev_sld (q := 359) rfl dL_law_358 (by omega) (by omega) rfl ?_
  refine ev_aload_0 (q := 360) dL_law_359 rfl ?_
  refine ev_iload_3 (q := 361) dL_law_360 rfl ?_
  refine ev_iconst (q := 362) dL_law_361 rfl ?_
  refine ev_iadd (q := 363) dL_law_362 rfl ?_
  refine ev_sld (q := 364) rfl dL_law_363 (by omega) (by omega) rfl ?_
  refine ev_aload_0 (q := 365) dL_law_364 rfl ?_
  refine ev_iload_3 (q := 366) dL_law_365 rfl ?_
  refine ev_iconst (q := 367) dL_law_366 rfl ?_
  refine ev_iadd (q := 368) dL_law_367 rfl ?_
  refine ev_sld (q := 369) rfl dL_law_368 (by omega) (by omega) rfl ?_
  refine ev_aload_0 (q := 370) dL_law_369 rfl ?_
  refine ev_iload_3 (q := 371) dL_law_370 rfl ?_
  refine ev_bipush (q := 373) dL_law_371 rfl (by decide) ?_
  refine ev_iadd (q := 374) dL_law_373 rfl ?_
  refine ev_sld (q := 375) rfl dL_law_374 (by omega) (by omega) rfl ?_
  refine ev_callV6iR (q := 378) dL_law_375 vs_RL_45 (by rfl) (m_rule (v := cV M 1) (h.ag g) h.1.1 (h.hh g) (hxs _) (hxs _) (hxs _) (hxs _) (hxs _) (hxs _)) (by decide) (Nat.le_of_ble_eq_true rfl) rfl (fun z2 M2 hm i2 => ?_)
  exact ev_icmp_eq (t := 891) (q := 381) dL_law_378 (by decide) rfl i1 i2 (fun _ => K M2 (e_rule h hc hm).2) (fun hne => absurd (e_rule h hc hm).1 hne)
set_option maxHeartbeats 1000000 in
theorem L_drop (hL : L ≤ 3584) (hxs : ∀ j, inR (xs j)) (hi : 0 ≤ i ∧ i + 7 ≤ (L : Int)) (h : Rel M) (K : ∀ M2, Rel M2 → Ev l (some (L, xs)) 12 kL_law b S0 M2 891 (ls_L i) [] Q) : Ev l (some (L, xs)) 12 kL_law b S0 M 383 (ls_L i) [] Q := by
  refine ev_aload_1 (q := 384) dL_law_383 rfl ?_
  refine ev_aload_0 (q := 385) dL_law_384 rfl ?_
  refine ev_iload_3 (q := 386) dL_law_385 rfl ?_
  refine ev_iconst (q := 387) dL_law_386 rfl ?_
  refine ev_iadd (q := 388) dL_law_387 rfl ?_
  refine ev_sld (q := 389) rfl dL_law_388 (by omega) (by omega) rfl ?_
  refine ev_callV1iR (q := 392) dL_law_389 vs_RL_46 (by rfl) (p_drop (hxs _) h.1) (by decide) (Nat.le_of_ble_eq_true rfl) rfl (fun z1 M1 hc i1 => ?_)
  have g := hi_drop h hc
  refine ev_aload_2 (q := 393) dL_law_392 rfl ?_
  refine ev_aload_0 (q := 394) dL_law_393 rfl ?_
  refine ev_iload_3 (q := 395) dL_law_394 rfl ?_
  refine ev_iconst (q := 396) dL_law_395 rfl ?_
  refine ev_iadd (q := 397) dL_law_396 rfl ?_
  refine ev_sld (q := 398) rfl dL_law_397 (by omega) (by omega) rfl ?_
  refine ev_callV1iR (q := 401) dL_law_398 vs_RL_49 (by rfl) (m_drop (v := cV M 1) (h.ag g) h.1.1 (h.hh g) (hxs _)) (by decide) (Nat.le_of_ble_eq_true rfl) rfl (fun z2 M2 hm i2 => ?_)
  exact ev_icmp_eq (t := 891) (q := 404) dL_law_401 (by decide) rfl i1 i2 (fun _ => K M2 (e_drop h hc hm).2) (fun hne => absurd (e_drop h hc hm).1 hne)
set_option maxHeartbeats 1000000 in
theorem L_declare (hL : L ≤ 3584) (hxs : ∀ j, inR (xs j)) (hi : 0 ≤ i ∧ i + 7 ≤ (L : Int)) (h : Rel M) (K : ∀ M2, Rel M2 → Ev l (some (L, xs)) 12 kL_law b S0 M2 891 (ls_L i) [] Q) : Ev l (some (L, xs)) 12 kL_law b S0 M 406 (ls_L i) [] Q := by
  refine ev_aload_1 (q := 407) dL_law_406 rfl ?_
  refine ev_aload_0 (q := 408) dL_law_407 rfl ?_
  refine ev_iload_3 (q := 409) dL_law_408 rfl ?_
  refine ev_iconst (q := 410) dL_law_409 rfl ?_
  refine ev_iadd (q := 411) dL_law_410 rfl ?_
  refine ev_sld (q := 412) rfl dL_law_411 (by omega) (by omega) rfl ?_
  refine ev_aload_0 (q := 413) dL_law_412 rfl ?_
  refine ev_iload_3 (q := 414) dL_law_413 rfl ?_
  refine ev_iconst (q := 415) dL_law_414 rfl ?_
  refine ev_iadd (q := 416) dL_law_415 rfl ?_
  refine ev_sld (q := 417) rfl dL_law_416 (by omega) (by omega) rfl ?_
  refine ev_aload_0 (q := 418) dL_law_417 rfl ?_
  refine ev_iload_3 (q := 419) dL_law_418 rfl ?_
  refine ev_iconst (q := 420) dL_law_419 rfl ?_
  refine ev_iadd (q := 421) dL_law_420 rfl ?_
  refine ev_sld (q := 422) rfl dL_law_421 (by omega) (by omega) rfl ?_
  refine ev_callV3iR (q := 425) dL_law_422 vs_RL_50 (by rfl) (p_declare (hxs _) (hxs _) (hxs _) h.1) (by decide) (Nat.le_of_ble_eq_true rfl) rfl (fun z1 M1 hc i1 => ?_)
  have g := hi_declare h hc
  refine ev_aload_2 (q := 426) dL_law_425 rfl ?_
  refine ev_aload_0 (q := 427) dL_law_426 rfl ?_
  refine ev_iload_3 (q := 428) dL_law_427 rfl ?_
  refine ev_iconst (q := 429) dL_law_428 rfl ?_
  refine ev_iadd (q := 430) dL_law_429 rfl ?_
  refine ev_sld (q := 431) rfl dL_law_430 (by omega) (by omega) rfl ?_
  refine ev_aload_0 (q := 432) dL_law_431 rfl ?_
  refine ev_iload_3 (q := 433) dL_law_432 rfl ?_
  refine ev_iconst (q := 434) dL_law_433 rfl ?_
  refine ev_iadd (q := 435) dL_law_434 rfl ?_
  refine ev_sld (q := 436) rfl dL_law_435 (by omega) (by omega) rfl ?_
  refine ev_aload_0 (q := 437) dL_law_436 rfl ?_
  refine ev_iload_3 (q := 438) dL_law_437 rfl ?_
  refine ev_iconst (q := 439) dL_law_438 rfl ?_
  refine ev_iadd (q := 440) dL_law_439 rfl ?_
  refine ev_sld (q := 441) rfl dL_law_440 (by omega) (by omega) rfl ?_
  refine ev_callV3iR (q := 444) dL_law_441 vs_RL_53 (by rfl) (m_declare (v := cV M 1) (h.ag g) h.1.1 (h.hh g) (hxs _) (hxs _) (hxs _)) (by decide) (Nat.le_of_ble_eq_true rfl) rfl (fun z2 M2 hm i2 => ?_)
  exact ev_icmp_eq (t := 891) (q := 447) dL_law_444 (by decide) rfl i1 i2 (fun _ => K M2 (e_declare h hc hm).2) (fun hne => absurd (e_declare h hc hm).1 hne)
set_option maxHeartbeats 1000000 in
theorem L_refer (hL : L ≤ 3584) (hxs : ∀ j, inR (xs j)) (hi : 0 ≤ i ∧ i + 7 ≤ (L : Int)) (h : Rel M) (K : ∀ M2, Rel M2 → Ev l (some (L, xs)) 12 kL_law b S0 M2 891 (ls_L i) [] Q) : Ev l (some (L, xs)) 12 kL_law b S0 M 449 (ls_L i) [] Q := by
  refine ev_aload_1 (q := 450) dL_law_449 rfl ?_
  refine ev_aload_0 (q := 451) dL_law_450 rfl ?_
  refine ev_iload_3 (q := 452) dL_law_451 rfl ?_
  refine ev_iconst (q := 453) dL_law_452 rfl ?_
  refine ev_iadd (q := 454) dL_law_453 rfl ?_
  refine ev_sld (q := 455) rfl dL_law_454 (by omega) (by omega) rfl ?_
  refine ev_aload_0 (q := 456) dL_law_455 rfl ?_
  refine ev_iload_3 (q := 457) dL_law_456 rfl ?_
  refine ev_iconst (q := 458) dL_law_457 rfl ?_
  refine ev_iadd (q := 459) dL_law_458 rfl ?_
  refine ev_sld (q := 460) rfl dL_law_459 (by omega) (by omega) rfl ?_
  refine ev_aload_0 (q := 461) dL_law_460 rfl ?_
  refine ev_iload_3 (q := 462) dL_law_461 rfl ?_
  refine ev_iconst (q := 463) dL_law_462 rfl ?_
  refine ev_iadd (q := 464) dL_law_463 rfl ?_
  refine ev_sld (q := 465) rfl dL_law_464 (by omega) (by omega) rfl ?_
  refine ev_aload_0 (q := 466) dL_law_465 rfl ?_
  refine ev_iload_3 (q := 467) dL_law_466 rfl ?_
  refine ev_iconst (q := 468) dL_law_467 rfl ?_
  refine ev_iadd (q := 469) dL_law_468 rfl ?_
  refine ev_sld (q := 470) rfl dL_law_469 (by omega) (by omega) rfl ?_
  refine ev_callV4iR (q := 473) dL_law_470 vs_RL_54 (by rfl) (p_refer (hxs _) (hxs _) (hxs _) (hxs _) h.1) (by decide) (Nat.le_of_ble_eq_true rfl) rfl (fun z1 M1 hc i1 => ?_)
  have g := hi_refer h hc
  refine ev_aload_2 (q := 474) dL_law_473 rfl ?_
  refine ev_aload_0 (q := 475) dL_law_474 rfl ?_
  refine ev_iload_3 (q := 476) dL_law_475 rfl ?_
  refine ev_iconst (q := 477) dL_law_476 rfl ?_
  refine ev_iadd (q := 478) dL_law_477 rfl ?_
  refine ev_sld (q := 479) rfl dL_law_478 (by omega) (by omega) rfl ?_
  refine ev_aload_0 (q := 480) dL_law_479 rfl ?_
  refine ev_iload_3 (q := 481) dL_law_480 rfl ?_
  refine ev_iconst (q := 482) dL_law_481 rfl ?_
  refine ev_iadd (q := 483) dL_law_482 rfl ?_
  refine ev_sld (q := 484) rfl dL_law_483 (by omega) (by omega) rfl ?_
  refine ev_aload_0 (q := 485) dL_law_484 rfl ?_
  refine ev_iload_3 (q := 486) dL_law_485 rfl ?_
  refine ev_iconst (q := 487) dL_law_486 rfl ?_
  refine ev_iadd (q := 488) dL_law_487 rfl ?_
  refine ev_sld (q := 489) rfl dL_law_488 (by omega) (by omega) rfl ?_
  refine ev_aload_0 (q := 490) dL_law_489 rfl ?_
  refine ev_iload_3 (q := 491) dL_law_490 rfl ?_
  refine ev_iconst (q := 492) dL_law_491 rfl ?_
  refine ev_iadd (q := 493) dL_law_492 rfl ?_
  refine ev_sld (q := 494) rfl dL_law_493 (by omega) (by omega) rfl ?_
  refine ev_callV4iR (q := 497) dL_law_494 vs_RL_58 (by rfl) (m_refer (v := cV M 1) (h.ag g) h.1.1 (h.hh g) (hxs _) (hxs _) (hxs _) (hxs _)) (by decide) (Nat.le_of_ble_eq_true rfl) rfl (fun z2 M2 hm i2 => ?_)
  exact ev_icmp_eq (t := 891) (q := 500) dL_law_497 (by decide) rfl i1 i2 (fun _ => K M2 (e_refer h hc hm).2) (fun hne => absurd (e_refer h hc hm).1 hne)
set_option maxHeartbeats 1000000 in
theorem L_undeclare (hL : L ≤ 3584) (hxs : ∀ j, inR (xs j)) (hi : 0 ≤ i ∧ i + 7 ≤ (L : Int)) (h : Rel M) (K : ∀ M2, Rel M2 → Ev l (some (L, xs)) 12 kL_law b S0 M2 891 (ls_L i) [] Q) : Ev l (some (L, xs)) 12 kL_law b S0 M 502 (ls_L i) [] Q := by
  refine ev_aload_1 (q := 503) dL_law_502 rfl ?_
  refine ev_aload_0 (q := 504) dL_law_503 rfl ?_
  refine ev_iload_3 (q := 505) dL_law_504 rfl ?_
  refine ev_iconst (q := 506) dL_law_505 rfl ?_
  refine ev_iadd (q := 507) dL_law_506 rfl ?_
  refine ev_sld (q := 508) rfl dL_law_507 (by omega) (by omega) rfl ?_
  refine ev_aload_0 (q := 509) dL_law_508 rfl ?_
  refine ev_iload_3 (q := 510) dL_law_509 rfl ?_
  refine ev_iconst (q := 511) dL_law_510 rfl ?_
  refine ev_iadd (q := 512) dL_law_511 rfl ?_
  refine ev_sld (q := 513) rfl dL_law_512 (by omega) (by omega) rfl ?_
  refine ev_callV2iR (q := 516) dL_law_513 vs_RL_59 (by rfl) (p_undeclare (hxs _) (hxs _) h.1) (by decide) (Nat.le_of_ble_eq_true rfl) rfl (fun z1 M1 hc i1 => ?_)
  have g := hi_undeclare h hc
  refine ev_aload_2 (q := 517) dL_law_516 rfl ?_
  refine ev_aload_0 (q := 518) dL_law_517 rfl ?_
  refine ev_iload_3 (q := 519) dL_law_518 rfl ?_
  refine ev_iconst (q := 520) dL_law_519 rfl ?_
  refine ev_iadd (q := 521) dL_law_520 rfl ?_
  refine ev_sld (q := 522) rfl dL_law_521 (by omega) (by omega) rfl ?_
  refine ev_aload_0 (q := 523) dL_law_522 rfl ?_
  refine ev_iload_3 (q := 524) dL_law_523 rfl ?_
  refine ev_iconst (q := 525) dL_law_524 rfl ?_
  refine ev_iadd (q := 526) dL_law_525 rfl ?_
  refine ev_sld (q := 527) rfl dL_law_526 (by omega) (by omega) rfl ?_
  refine ev_callV2iR (q := 530) dL_law_527 vs_RL_62 (by rfl) (m_undeclare (v := cV M 1) (h.ag g) h.1.1 (h.hh g) (hxs _) (hxs _)) (by decide) (Nat.le_of_ble_eq_true rfl) rfl (fun z2 M2 hm i2 => ?_)
  exact ev_icmp_eq (t := 891) (q := 533) dL_law_530 (by decide) rfl i1 i2 (fun _ => K M2 (e_undeclare h hc hm).2) (fun hne => absurd (e_undeclare h hc hm).1 hne)
set_option maxHeartbeats 1000000 in
theorem L_ruleOf (hL : L ≤ 3584) (hxs : ∀ j, inR (xs j)) (hi : 0 ≤ i ∧ i + 7 ≤ (L : Int)) (h : Rel M) (K : ∀ M2, Rel M2 → Ev l (some (L, xs)) 12 kL_law b S0 M2 891 (ls_L i) [] Q) : Ev l (some (L, xs)) 12 kL_law b S0 M 535 (ls_L i) [] Q := by
  refine ev_aload_1 (q := 536) dL_law_535 rfl ?_
  refine ev_aload_0 (q := 537) dL_law_536 rfl ?_
  refine ev_iload_3 (q := 538) dL_law_537 rfl ?_
  refine ev_iconst (q := 539) dL_law_538 rfl ?_
  refine ev_iadd (q := 540) dL_law_539 rfl ?_
  refine ev_sld (q := 541) rfl dL_law_540 (by omega) (by omega) rfl ?_
  refine ev_aload_0 (q := 542) dL_law_541 rfl ?_
  refine ev_iload_3 (q := 543) dL_law_542 rfl ?_
  refine ev_iconst (q := 544) dL_law_543 rfl ?_
  refine ev_iadd (q := 545) dL_law_544 rfl ?_
  refine ev_sld (q := 546) rfl dL_law_545 (by omega) (by omega) rfl ?_
  refine ev_callV2iR (q := 549) dL_law_546 vs_RL_63 (by rfl) (p_ruleOf (hxs _) (hxs _) h.1) (by decide) (Nat.le_of_ble_eq_true rfl) rfl (fun z1 M1 hc i1 => ?_)
  have g := hi_ruleOf h hc
  refine ev_aload_2 (q := 550) dL_law_549 rfl ?_
  refine ev_aload_0 (q := 551) dL_law_550 rfl ?_
  refine ev_iload_3 (q := 552) dL_law_551 rfl ?_
  refine ev_iconst (q := 553) dL_law_552 rfl ?_
  refine ev_iadd (q := 554) dL_law_553 rfl ?_
  refine ev_sld (q := 555) rfl dL_law_554 (by omega) (by omega) rfl ?_
  refine ev_aload_0 (q := 556) dL_law_555 rfl ?_
  refine ev_iload_3 (q := 557) dL_law_556 rfl ?_
  refine ev_iconst (q := 558) dL_law_557 rfl ?_
  refine ev_iadd (q := 559) dL_law_558 rfl ?_
  refine ev_sld (q := 560) rfl dL_law_559 (by omega) (by omega) rfl ?_
  refine ev_callV2iR (q := 563) dL_law_560 vs_RL_66 (by rfl) (m_ruleOf (v := cV M 1) (h.ag g) h.1.1 (hxs _) (hxs _)) (by decide) (Nat.le_of_ble_eq_true rfl) rfl (fun z2 M2 hm i2 => ?_)
  exact ev_icmp_eq (t := 891) (q := 566) dL_law_563 (by decide) rfl i1 i2 (fun _ => K M2 (e_ruleOf h hc hm).2) (fun hne => absurd (e_ruleOf h hc hm).1 hne)
set_option maxHeartbeats 1000000 in
theorem L_declared (hL : L ≤ 3584) (hxs : ∀ j, inR (xs j)) (hi : 0 ≤ i ∧ i + 7 ≤ (L : Int)) (h : Rel M) (K : ∀ M2, Rel M2 → Ev l (some (L, xs)) 12 kL_law b S0 M2 891 (ls_L i) [] Q) : Ev l (some (L, xs)) 12 kL_law b S0 M 568 (ls_L i) [] Q := by
  refine ev_aload_1 (q := 569) dL_law_568 rfl ?_
  refine ev_aload_0 (q := 570) dL_law_569 rfl ?_
  refine ev_iload_3 (q := 571) dL_law_570 rfl ?_
  refine ev_iconst (q := 572) dL_law_571 rfl ?_
  refine ev_iadd (q := 573) dL_law_572 rfl ?_
  refine ev_sld (q := 574) rfl dL_law_573 (by omega) (by omega) rfl ?_
  refine ev_aload_0 (q := 575) dL_law_574 rfl ?_
  refine ev_iload_3 (q := 576) dL_law_575 rfl ?_
  refine ev_iconst (q := 577) dL_law_576 rfl ?_
  refine ev_iadd (q := 578) dL_law_577 rfl ?_
  refine ev_sld (q := 579) rfl dL_law_578 (by omega) (by omega) rfl ?_
  refine ev_aload_0 (q := 580) dL_law_579 rfl ?_
  refine ev_iload_3 (q := 581) dL_law_580 rfl ?_
  refine ev_iconst (q := 582) dL_law_581 rfl ?_
  refine ev_iadd (q := 583) dL_law_582 rfl ?_
  refine ev_sld (q := 584) rfl dL_law_583 (by omega) (by omega) rfl ?_
  refine ev_callV3iR (q := 587) dL_law_584 vs_RL_67 (by rfl) (p_declared (hxs _) (hxs _) (hxs _) h.1) (by decide) (Nat.le_of_ble_eq_true rfl) rfl (fun z1 M1 hc i1 => ?_)
  have g := hi_declared h hc
  refine ev_aload_2 (q := 588) dL_law_587 rfl ?_
  refine ev_aload_0 (q := 589) dL_law_588 rfl ?_
  refine ev_iload_3 (q := 590) dL_law_589 rfl ?_
  refine ev_iconst (q := 591) dL_law_590 rfl ?_
  refine ev_iadd (q := 592) dL_law_591 rfl ?_
  refine ev_sld (q := 593) rfl dL_law_592 (by omega) (by omega) rfl ?_
  refine ev_aload_0 (q := 594) dL_law_593 rfl ?_
  refine ev_iload_3 (q := 595) dL_law_594 rfl ?_
  refine ev_iconst (q := 596) dL_law_595 rfl ?_
  refine ev_iadd (q := 597) dL_law_596 rfl ?_
  refine ev_sld (q := 598) rfl dL_law_597 (by omega) (by omega) rfl ?_
  refine ev_aload_0 (q := 599) dL_law_598 rfl ?_
  refine ev_iload_3 (q := 600) dL_law_599 rfl ?_
  refine ev_iconst (q := 601) dL_law_600 rfl ?_
  refine ev_iadd (q := 602) dL_law_601 rfl ?_
  refine ev_sld (q := 603) rfl dL_law_602 (by omega) (by omega) rfl ?_
  refine ev_callV3iR (q := 606) dL_law_603 vs_RL_70 (by rfl) (m_declared (v := cV M 1) (h.ag g) h.1.1 (hxs _) (hxs _) (hxs _)) (by decide) (Nat.le_of_ble_eq_true rfl) rfl (fun z2 M2 hm i2 => ?_)
  exact ev_icmp_eq (t := 891) (q := 609) dL_law_606 (by decide) rfl i1 i2 (fun _ => K M2 (e_declared h hc hm).2) (fun hne => absurd (e_declared h hc hm).1 hne)
set_option maxHeartbeats 1000000 in
theorem L_matches (hL : L ≤ 3584) (hxs : ∀ j, inR (xs j)) (hi : 0 ≤ i ∧ i + 7 ≤ (L : Int)) (h : Rel M) (K : ∀ M2, Rel M2 → Ev l (some (L, xs)) 12 kL_law b S0 M2 891 (ls_L i) [] Q) : Ev l (some (L, xs)) 12 kL_law b S0 M 611 (ls_L i) [] Q := by
  refine ev_aload_1 (q := 612) dL_law_611 rfl ?_
  refine ev_aload_0 (q := 613) dL_law_612 rfl ?_
  refine ev_iload_3 (q := 614) dL_law_613 rfl ?_
  refine ev_iconst (q := 615) dL_law_614 rfl ?_
  refine ev_iadd (q := 616) dL_law_615 rfl ?_
  refine ev_sld (q := 617) rfl dL_law_616 (by omega) (by omega) rfl ?_
  refine ev_aload_0 (q := 618) dL_law_617 rfl ?_
  refine ev_iload_3 (q := 619) dL_law_618 rfl ?_
  refine ev_iconst (q := 620) dL_law_619 rfl ?_
  refine ev_iadd (q := 621) dL_law_620 rfl ?_
  refine ev_sld (q := 622) rfl dL_law_621 (by omega) (by omega) rfl ?_
  refine ev_callV2iR (q := 625) dL_law_622 vs_RL_71 (by rfl) (p_matches (hxs _) (hxs _) h.1) (by decide) (Nat.le_of_ble_eq_true rfl) rfl (fun z1 M1 hc i1 => ?_)
  have g := hi_matches h hc
  refine ev_aload_2 (q := 626) dL_law_625 rfl ?_
  refine ev_aload_0 (q := 627) dL_law_626 rfl ?_
  refine ev_iload_3 (q := 628) dL_law_627 rfl ?_
  refine ev_iconst (q := 629) dL_law_628 rfl ?_
  refine ev_iadd (q := 630) dL_law_629 rfl ?_
  refine ev_sld (q := 631) rfl dL_law_630 (by omega) (by omega) rfl ?_
  refine ev_aload_0 (q := 632) dL_law_631 rfl ?_
  refine ev_iload_3 (q := 633) dL_law_632 rfl ?_
  refine ev_iconst (q := 634) dL_law_633 rfl ?_
  refine ev_iadd (q := 635) dL_law_634 rfl ?_
  refine ev_sld (q := 636) rfl dL_law_635 (by omega) (by omega) rfl ?_
  refine ev_callV2iR (q := 639) dL_law_636 vs_RL_74 (by rfl) (m_matches (v := cV M 1) (h.ag g) h.1.1 (hxs _) (hxs _)) (by decide) (Nat.le_of_ble_eq_true rfl) rfl (fun z2 M2 hm i2 => ?_)
  exact ev_icmp_eq (t := 891) (q := 642) dL_law_639 (by decide) rfl i1 i2 (fun _ => K M2 (e_matches h hc hm).2) (fun hne => absurd (e_matches h hc hm).1 hne)
set_option maxHeartbeats 1000000 in
theorem L_value (hL : L ≤ 3584) (hxs : ∀ j, inR (xs j)) (hi : 0 ≤ i ∧ i + 7 ≤ (L : Int)) (h : Rel M) (K : ∀ M2, Rel M2 → Ev l (some (L, xs)) 12 kL_law b S0 M2 891 (ls_L i) [] Q) : Ev l (some (L, xs)) 12 kL_law b S0 M 644 (ls_L i) [] Q := by
  refine ev_aload_1 (q := 645) dL_law_644 rfl ?_
  refine ev_aload_0 (q := 646) dL_law_645 rfl ?_
  refine ev_iload_3 (q := 647) dL_law_646 rfl ?_
  refine ev_iconst (q := 648) dL_law_647 rfl ?_
  refine ev_iadd (q := 649) dL_law_648 rfl ?_
  refine ev_sld (q := 650) rfl dL_law_649 (by omega) (by omega) rfl ?_
  refine ev_aload_0 (q := 651) dL_law_650 rfl ?_
  refine ev_iload_3 (q := 652) dL_law_651 rfl ?_
  refine ev_iconst (q := 653) dL_law_652 rfl ?_
  refine ev_iadd (q := 654) dL_law_653 rfl ?_
  refine ev_sld (q := 655) rfl dL_law_654 (by omega) (by omega) rfl ?_
  refine ev_callV2iR (q := 658) dL_law_655 vs_RL_75 (by rfl) (p_value (hxs _) (hxs _) h.1) (by decide) (Nat.le_of_ble_eq_true rfl) rfl (fun z1 M1 hc i1 => ?_)
  have g := hi_value h hc
  refine ev_aload_2 (q := 659) dL_law_658 rfl ?_
  refine ev_aload_0 (q := 660) dL_law_659 rfl ?_
  refine ev_iload_3 (q := 661) dL_law_660 rfl ?_
  refine ev_iconst (q := 662) dL_law_661 rfl ?_
  refine ev_iadd (q := 663) dL_law_662 rfl ?_
  refine ev_sld (q := 664) rfl dL_law_663 (by omega) (by omega) rfl ?_
  refine ev_aload_0 (q := 665) dL_law_664 rfl ?_
  refine ev_iload_3 (q := 666) dL_law_665 rfl ?_
  refine ev_iconst (q := 667) dL_law_666 rfl ?_
  refine ev_iadd (q := 668) dL_law_667 rfl ?_
  refine ev_sld (q := 669) rfl dL_law_668 (by omega) (by omega) rfl ?_
  refine ev_callV2iR (q := 672) dL_law_669 vs_RL_78 (by rfl) (m_value (v := cV M 1) (h.ag g) h.1.1 (hxs _) (hxs _)) (by decide) (Nat.le_of_ble_eq_true rfl) rfl (fun z2 M2 hm i2 => ?_)
  exact ev_icmp_eq (t := 891) (q := 675) dL_law_672 (by decide) rfl i1 i2 (fun _ => K M2 (e_value h hc hm).2) (fun hne => absurd (e_value h hc hm).1 hne)
set_option maxHeartbeats 1000000 in
theorem L_winner (hL : L ≤ 3584) (hxs : ∀ j, inR (xs j)) (hi : 0 ≤ i ∧ i + 7 ≤ (L : Int)) (h : Rel M) (K : ∀ M2, Rel M2 → Ev l (some (L, xs)) 12 kL_law b S0 M2 891 (ls_L i) [] Q) : Ev l (some (L, xs)) 12 kL_law b S0 M 677 (ls_L i) [] Q := by
  refine ev_aload_1 (q := 678) dL_law_677 rfl ?_
  refine ev_aload_0 (q := 679) dL_law_678 rfl ?_
  refine ev_iload_3 (q := 680) dL_law_679 rfl ?_
  refine ev_iconst (q := 681) dL_law_680 rfl ?_
  refine ev_iadd (q := 682) dL_law_681 rfl ?_
  refine ev_sld (q := 683) rfl dL_law_682 (by omega) (by omega) rfl ?_
  refine ev_aload_0 (q := 684) dL_law_683 rfl ?_
  refine ev_iload_3 (q := 685) dL_law_684 rfl ?_
  refine ev_iconst (q := 686) dL_law_685 rfl ?_
  refine ev_iadd (q := 687) dL_law_686 rfl ?_
  refine ev_sld (q := 688) rfl dL_law_687 (by omega) (by omega) rfl ?_
  refine ev_callV2iR (q := 691) dL_law_688 vs_RL_79 (by rfl) (p_winner (hxs _) (hxs _) h.1) (by decide) (Nat.le_of_ble_eq_true rfl) rfl (fun z1 M1 hc i1 => ?_)
  have g := hi_winner h hc
  refine ev_aload_2 (q := 692) dL_law_691 rfl ?_
  refine ev_aload_0 (q := 693) dL_law_692 rfl ?_
  refine ev_iload_3 (q := 694) dL_law_693 rfl ?_
  refine ev_iconst (q := 695) dL_law_694 rfl ?_
  refine ev_iadd (q := 696) dL_law_695 rfl ?_
  refine ev_sld (q := 697) rfl dL_law_696 (by omega) (by omega) rfl ?_
  refine ev_aload_0 (q := 698) dL_law_697 rfl ?_
  refine ev_iload_3 (q := 699) dL_law_698 rfl ?_
  refine ev_iconst (q := 700) dL_law_699 rfl ?_
  refine ev_iadd (q := 701) dL_law_700 rfl ?_
  refine ev_sld (q := 702) rfl dL_law_701 (by omega) (by omega) rfl ?_
  refine ev_callV2iR (q := 705) dL_law_702 vs_RL_82 (by rfl) (m_winner (v := cV M 1) (h.ag g) h.1.1 (hxs _) (hxs _)) (by decide) (Nat.le_of_ble_eq_true rfl) rfl (fun z2 M2 hm i2 => ?_)
  exact ev_icmp_eq (t := 891) (q := 708) dL_law_705 (by decide) rfl i1 i2 (fun _ => K M2 (e_winner h hc hm).2) (fun hne => absurd (e_winner h hc hm).1 hne)
set_option maxHeartbeats 1000000 in
theorem L_why (hL : L ≤ 3584) (hxs : ∀ j, inR (xs j)) (hi : 0 ≤ i ∧ i + 7 ≤ (L : Int)) (h : Rel M) (K : ∀ M2, Rel M2 → Ev l (some (L, xs)) 12 kL_law b S0 M2 891 (ls_L i) [] Q) : Ev l (some (L, xs)) 12 kL_law b S0 M 710 (ls_L i) [] Q := by
  refine ev_aload_1 (q := 711) dL_law_710 rfl ?_
  refine ev_aload_0 (q := 712) dL_law_711 rfl ?_
  refine ev_iload_3 (q := 713) dL_law_712 rfl ?_
  refine ev_iconst (q := 714) dL_law_713 rfl ?_
  refine ev_iadd (q := 715) dL_law_714 rfl ?_
  refine ev_sld (q := 716) rfl dL_law_715 (by omega) (by omega) rfl ?_
  refine ev_aload_0 (q := 717) dL_law_716 rfl ?_
  refine ev_iload_3 (q := 718) dL_law_717 rfl ?_
  refine ev_iconst (q := 719) dL_law_718 rfl ?_
  refine ev_iadd (q := 720) dL_law_719 rfl ?_
  refine ev_sld (q := 721) rfl dL_law_720 (by omega) (by omega) rfl ?_
  refine ev_aload_0 (q := 722) dL_law_721 rfl ?_
  refine ev_iload_3 (q := 723) dL_law_722 rfl ?_
  refine ev_iconst (q := 724) dL_law_723 rfl ?_
  refine ev_iadd (q := 725) dL_law_724 rfl ?_
  refine ev_sld (q := 726) rfl dL_law_725 (by omega) (by omega) rfl ?_
  refine ev_aload_0 (q := 727) dL_law_726 rfl ?_
  refine ev_iload_3 (q := 728) dL_law_727 rfl ?_
  refine ev_iconst (q := 729) dL_law_728 rfl ?_
  refine ev_iadd (q := 730) dL_law_729 rfl ?_
  refine ev_sld (q := 731) rfl dL_law_730 (by omega) (by omega) rfl ?_
  refine ev_callV4iR (q := 734) dL_law_731 vs_RL_83 (by rfl) (p_why (hxs _) (hxs _) (hxs _) (hxs _) h.1) (by decide) (Nat.le_of_ble_eq_true rfl) rfl (fun z1 M1 hc i1 => ?_)
  have g := hi_why h hc
  refine ev_aload_2 (q := 735) dL_law_734 rfl ?_
  refine ev_aload_0 (q := 736) dL_law_735 rfl ?_
  refine ev_iload_3 (q := 737) dL_law_736 rfl ?_
  refine ev_iconst (q := 738) dL_law_737 rfl ?_
  refine ev_iadd (q := 739) dL_law_738 rfl ?_
  refine ev_sld (q := 740) rfl dL_law_739 (by omega) (by omega) rfl ?_
  refine ev_aload_0 (q := 741) dL_law_740 rfl ?_
  refine ev_iload_3 (q := 742) dL_law_741 rfl ?_
  refine ev_iconst (q := 743) dL_law_742 rfl ?_
  refine ev_iadd (q := 744) dL_law_743 rfl ?_
  refine ev_sld (q := 745) rfl dL_law_744 (by omega) (by omega) rfl ?_
  refine ev_aload_0 (q := 746) dL_law_745 rfl ?_
  refine ev_iload_3 (q := 747) dL_law_746 rfl ?_
  refine ev_iconst (q := 748) dL_law_747 rfl ?_
  refine ev_iadd (q := 749) dL_law_748 rfl ?_
  refine ev_sld (q := 750) rfl dL_law_749 (by omega) (by omega) rfl ?_
  refine ev_aload_0 (q := 751) dL_law_750 rfl ?_
  refine ev_iload_3 (q := 752) dL_law_751 rfl ?_
  refine ev_iconst (q := 753) dL_law_752 rfl ?_
  refine ev_iadd (q := 754) dL_law_753 rfl ?_
  refine ev_sld (q := 755) rfl dL_law_754 (by omega) (by omega) rfl ?_
  refine ev_callV4iR (q := 758) dL_law_755 vs_RL_86 (by rfl) (m_why (v := cV M 1) (h.ag g) h.1.1 (hxs _) (hxs _) (hxs _) (hxs _)) (by decide) (Nat.le_of_ble_eq_true rfl) rfl (fun z2 M2 hm i2 => ?_)
  exact ev_icmp_eq (t := 891) (q := 761) dL_law_758 (by decide) rfl i1 i2 (fun _ => K M2 (e_why h hc hm).2) (fun hne => absurd (e_why h hc hm).1 hne)
set_option maxHeartbeats 1000000 in
theorem L_from (hL : L ≤ 3584) (hxs : ∀ j, inR (xs j)) (hi : 0 ≤ i ∧ i + 7 ≤ (L : Int)) (h : Rel M) (K : ∀ M2, Rel M2 → Ev l (some (L, xs)) 12 kL_law b S0 M2 891 (ls_L i) [] Q) : Ev l (some (L, xs)) 12 kL_law b S0 M 763 (ls_L i) [] Q := by
  refine ev_aload_1 (q := 764) dL_law_763 rfl ?_
  refine ev_aload_0 (q := 765) dL_law_764 rfl ?_
  refine ev_iload_3 (q := 766) dL_law_765 rfl ?_
  refine ev_iconst (q := 767) dL_law_766 rfl ?_
  refine ev_iadd (q := 768) dL_law_767 rfl ?_
  refine ev_sld (q := 769) rfl dL_law_768 (by omega) (by omega) rfl ?_
  refine ev_aload_0 (q := 770) dL_law_769 rfl ?_
  refine ev_iload_3 (q := 771) dL_law_770 rfl ?_
  refine ev_iconst (q := 772) dL_law_771 rfl ?_
  refine ev_iadd (q := 773) dL_law_772 rfl ?_
  refine ev_sld (q := 774) rfl dL_law_773 (by omega) (by omega) rfl ?_
  refine ev_callV2iR (q := 777) dL_law_774 vs_RL_87 (by rfl) (p_from (hxs _) (hxs _) h.1) (by decide) (Nat.le_of_ble_eq_true rfl) rfl (fun z1 M1 hc i1 => ?_)
  have g := hi_from h hc
  refine ev_aload_2 (q := 778) dL_law_777 rfl ?_
  refine ev_aload_0 (q := 779) dL_law_778 rfl ?_
  refine ev_iload_3 (q := 780) dL_law_779 rfl ?_
  refine ev_iconst (q := 781) dL_law_780 rfl ?_
  refine ev_iadd (q := 782) dL_law_781 rfl ?_
  refine ev_sld (q := 783) rfl dL_law_782 (by omega) (by omega) rfl ?_
  refine ev_aload_0 (q := 784) dL_law_783 rfl ?_
  refine ev_iload_3 (q := 785) dL_law_784 rfl ?_
  refine ev_iconst (q := 786) dL_law_785 rfl ?_
  refine ev_iadd (q := 787) dL_law_786 rfl ?_
  refine ev_sld (q := 788) rfl dL_law_787 (by omega) (by omega) rfl ?_
  refine ev_callV2iR (q := 791) dL_law_788 vs_RL_90 (by rfl) (m_from (v := cV M 1) (h.ag g) h.1.1 (hxs _) (hxs _)) (by decide) (Nat.le_of_ble_eq_true rfl) rfl (fun z2 M2 hm i2 => ?_)
  exact ev_icmp_eq (t := 891) (q := 794) dL_law_791 (by decide) rfl i1 i2 (fun _ => K M2 (e_from h hc hm).2) (fun hne => absurd (e_from h hc hm).1 hne)
set_option maxHeartbeats 1000000 in
theorem L_cycle (hL : L ≤ 3584) (hxs : ∀ j, inR (xs j)) (hi : 0 ≤ i ∧ i + 7 ≤ (L : Int)) (h : Rel M) (K : ∀ M2, Rel M2 → Ev l (some (L, xs)) 12 kL_law b S0 M2 891 (ls_L i) [] Q) : Ev l (some (L, xs)) 12 kL_law b S0 M 796 (ls_L i) [] Q := by
  refine ev_aload_1 (q := 797) dL_law_796 rfl ?_
  refine ev_aload_0 (q := 798) dL_law_797 rfl ?_
  refine ev_iload_3 (q := 799) dL_law_798 rfl ?_
  refine ev_iconst (q := 800) dL_law_799 rfl ?_
  refine ev_iadd (q := 801) dL_law_800 rfl ?_
  refine ev_sld (q := 802) rfl dL_law_801 (by omega) (by omega) rfl ?_
  refine ev_aload_0 (q := 803) dL_law_802 rfl ?_
  refine ev_iload_3 (q := 804) dL_law_803 rfl ?_
  refine ev_iconst (q := 805) dL_law_804 rfl ?_
  refine ev_iadd (q := 806) dL_law_805 rfl ?_
  refine ev_sld (q := 807) rfl dL_law_806 (by omega) (by omega) rfl ?_
  refine ev_callV2iR (q := 810) dL_law_807 vs_RL_91 (by rfl) (p_cycle (hxs _) (hxs _) h.1) (by decide) (Nat.le_of_ble_eq_true rfl) rfl (fun z1 M1 hc i1 => ?_)
  have g := hi_cycle h hc
  refine ev_aload_2 (q := 811) dL_law_810 rfl ?_
  refine ev_aload_0 (q := 812) dL_law_811 rfl ?_
  refine ev_iload_3 (q := 813) dL_law_812 rfl ?_
  refine ev_iconst (q := 814) dL_law_813 rfl ?_
  refine ev_iadd (q := 815) dL_law_814 rfl ?_
  refine ev_sld (q := 816) rfl dL_law_815 (by omega) (by omega) rfl ?_
  refine ev_aload_0 (q := 817) dL_law_816 rfl ?_
  refine ev_iload_3 (q := 818) dL_law_817 rfl ?_
  refine ev_iconst (q := 819) dL_law_818 rfl ?_
  refine ev_iadd (q := 820) dL_law_819 rfl ?_
  refine ev_sld (q := 821) rfl dL_law_820 (by omega) (by omega) rfl ?_
  refine ev_callV2iR (q := 824) dL_law_821 vs_RL_94 (by rfl) (m_cycle (v := cV M 1) (h.ag g) h.1.1 (hxs _) (hxs _)) (by decide) (Nat.le_of_ble_eq_true rfl) rfl (fun z2 M2 hm i2 => ?_)
  exact ev_icmp_eq (t := 891) (q := 827) dL_law_824 (by decide) rfl i1 i2 (fun _ => K M2 (e_cycle h hc hm).2) (fun hne => absurd (e_cycle h hc hm).1 hne)
set_option maxHeartbeats 1000000 in
theorem L_type (hL : L ≤ 3584) (hxs : ∀ j, inR (xs j)) (hi : 0 ≤ i ∧ i + 7 ≤ (L : Int)) (h : Rel M) (K : ∀ M2, Rel M2 → Ev l (some (L, xs)) 12 kL_law b S0 M2 891 (ls_L i) [] Q) : Ev l (some (L, xs)) 12 kL_law b S0 M 829 (ls_L i) [] Q := by
  refine ev_aload_1 (q := 830) dL_law_829 rfl ?_
  refine ev_aload_0 (q := 831) dL_law_830 rfl ?_
  refine ev_iload_3 (q := 832) dL_law_831 rfl ?_
  refine ev_iconst (q := 833) dL_law_832 rfl ?_
  refine ev_iadd (q := 834) dL_law_833 rfl ?_
  refine ev_sld (q := 835) rfl dL_law_834 (by omega) (by omega) rfl ?_
  refine ev_callV1iR (q := 838) dL_law_835 vs_RL_95 (by rfl) (p_type (hxs _) h.1) (by decide) (Nat.le_of_ble_eq_true rfl) rfl (fun z1 M1 hc i1 => ?_)
  have g := hi_type h hc
  refine ev_aload_2 (q := 839) dL_law_838 rfl ?_
  refine ev_aload_0 (q := 840) dL_law_839 rfl ?_
  refine ev_iload_3 (q := 841) dL_law_840 rfl ?_
  refine ev_iconst (q := 842) dL_law_841 rfl ?_
  refine ev_iadd (q := 843) dL_law_842 rfl ?_
  refine ev_sld (q := 844) rfl dL_law_843 (by omega) (by omega) rfl ?_
  refine ev_callV1iR (q := 847) dL_law_844 vs_RL_98 (by rfl) (m_type (hxs _) (h.tl g)) (by decide) (Nat.le_of_ble_eq_true rfl) rfl (fun z2 M2 hm i2 => ?_)
  exact ev_icmp_eq (t := 891) (q := 850) dL_law_847 (by decide) rfl i1 i2 (fun _ => K M2 (e_type h hc hm).2) (fun hne => absurd (e_type h hc hm).1 hne)
set_option maxHeartbeats 1000000 in
theorem L_clearText (hL : L ≤ 3584) (hxs : ∀ j, inR (xs j)) (hi : 0 ≤ i ∧ i + 7 ≤ (L : Int)) (h : Rel M) (K : ∀ M2, Rel M2 → Ev l (some (L, xs)) 12 kL_law b S0 M2 891 (ls_L i) [] Q) : Ev l (some (L, xs)) 12 kL_law b S0 M 852 (ls_L i) [] Q := by
  refine ev_aload_1 (q := 853) dL_law_852 rfl ?_
  refine ev_callV0iR (q := 856) dL_law_853 vs_RL_99 (by rfl) p_clearText (by decide) (Nat.le_of_ble_eq_true rfl) rfl (fun z1 M1 hc i1 => ?_)
  have g := hi_clearText h hc
  refine ev_aload_2 (q := 857) dL_law_856 rfl ?_
  refine ev_callV0iR (q := 860) dL_law_857 vs_RL_102 (by rfl) (m_clearText (h.tl g).1) (by decide) (Nat.le_of_ble_eq_true rfl) rfl (fun z2 M2 hm i2 => ?_)
  exact ev_icmp_eq (t := 891) (q := 863) dL_law_860 (by decide) rfl i1 i2 (fun _ => K M2 (e_clearText h hc hm).2) (fun hne => absurd (e_clearText h hc hm).1 hne)
set_option maxHeartbeats 1000000 in
theorem L_fault (hL : L ≤ 3584) (hxs : ∀ j, inR (xs j)) (hi : 0 ≤ i ∧ i + 7 ≤ (L : Int)) (h : Rel M) (K : ∀ M2, Rel M2 → Ev l (some (L, xs)) 12 kL_law b S0 M2 891 (ls_L i) [] Q) : Ev l (some (L, xs)) 12 kL_law b S0 M 865 (ls_L i) [] Q := by
  refine ev_aload_1 (q := 866) dL_law_865 rfl ?_
  refine ev_callV0iR (q := 869) dL_law_866 vs_RL_103 (by rfl) (p_fault  h.1) (by decide) (Nat.le_of_ble_eq_true rfl) rfl (fun z1 M1 hc i1 => ?_)
  have g := hi_fault h hc
  refine ev_aload_2 (q := 870) dL_law_869 rfl ?_
  refine ev_callV0iR (q := 873) dL_law_870 vs_RL_106 (by rfl) (m_fault (h.tx g) (h.el g)) (by decide) (Nat.le_of_ble_eq_true rfl) rfl (fun z2 M2 hm i2 => ?_)
  exact ev_icmp_eq (t := 891) (q := 876) dL_law_873 (by decide) rfl i1 i2 (fun _ => K M2 (e_fault h hc hm).2) (fun hne => absurd (e_fault h hc hm).1 hne)
set_option maxHeartbeats 1000000 in
theorem L_read (hL : L ≤ 3584) (hxs : ∀ j, inR (xs j)) (hi : 0 ≤ i ∧ i + 7 ≤ (L : Int)) (h : Rel M) (K : ∀ M2, Rel M2 → Ev l (some (L, xs)) 12 kL_law b S0 M2 891 (ls_L i) [] Q) : Ev l (some (L, xs)) 12 kL_law b S0 M 878 (ls_L i) [] Q := by
  refine ev_aload_1 (q := 879) dL_law_878 rfl ?_
  refine ev_callV0iR (q := 882) dL_law_879 vs_RL_107 (by rfl) (p_read  h.1) (by decide) (Nat.le_of_ble_eq_true rfl) rfl (fun z1 M1 hc i1 => ?_)
  have g := hi_read h hc
  refine ev_aload_2 (q := 883) dL_law_882 rfl ?_
  refine ev_callV0iR (q := 886) dL_law_883 vs_RL_110 (by rfl) (m_read (v := cV M 1) (h.ag g) h.1.1 (h.hh g) (h.tx g)) (by decide) (Nat.le_of_ble_eq_true rfl) rfl (fun z2 M2 hm i2 => ?_)
  exact ev_icmp_eq (t := 891) (q := 889) dL_law_886 (by decide) rfl i1 i2 (fun _ => K M2 (e_read h hc hm).2) (fun hne => absurd (e_read h hc hm).1 hne)
end Law
