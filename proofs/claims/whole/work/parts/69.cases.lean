-- ===== the law's cases =====
def LN (Γ : GTy) (W : WTy) (n : Nat) (k : Nat × Nat) : Prop := ∀ (k' : Nat × Nat) (Z' : HS) (F' : FT), k'.1 ≤ k.1 + 12 → k'.2 ≤ k.2 + 100 → (∃ (g : GN) (A : FT), CI (n + 1) Z' F' g A) → rF Z' = F' → G Γ M_L_law room_1 W k' 2232 [some (.ref (sid 4)), some (.ref 800000), some (.ref 900000), some (.ref 1990000), some (.int (nI (5 * n))), none, none] [] Z'
theorem Nx.go {n : Nat} {Z Y : HS} {F' : FT} (h : Nx n Z Y F') : ∃ (g : GN) (A : FT), CI (n + 1) (wM Y F') (rF (wM Y F')) g A := by
  obtain ⟨-, g, A, h2⟩ := h
  rw [rF_wM]
  exact ⟨g, A, scF_CI h2.wM⟩
theorem nI_z {m : Nat} (h : m < 10) (e : nI m = 0) : m = 0 := (nI_eq (b := 0) (by omega) (by decide)).mp e
theorem LC_setPrice {Γ : GTy} (hG : GS Γ) {W : WTy} {k : Nat × Nat} {n : Nat} {Z : HS} {F A : FT} {g : GN} (h : CI n Z F g A) (hF : rF Z = F) (hn : n < 512) (hL : 5 * n + 5 ≤ (gt Γ 4).2.1) (hL2 : (gt Γ 4).2.1 ≤ 2560) (k1 : k.1 ≤ 10000) (k2 : k.2 ≤ 100000) (next : LN Γ W n k) : G Γ M_L_law room_1 W k 188 [some (.ref (sid 4)), some (.ref 800000), some (.ref 900000), some (.ref 1990000), some (.int (nI (5 * n))), none, none] [] Z := by
  have hH := h.1
  have hJ := hH.2.2.2.2.2.1
  obtain ⟨b, F', hM2, hop⟩ := op_setPrice hG h hn ((gt Γ 4).2.2 (5 * n + 1))
  refine G_aload_n (pc := 188) dL_law_188 rfl ?_
  refine G_aload_n (pc := 189) dL_law_189 rfl ?_
  refine G_iload (pc := 190) dL_law_190 rfl ?_
  refine G_iconst (pc := 192) (v := nI 1) dL_law_192 (by first | rfl | decide) ?_
  refine G_iaddN (pc := 193) dL_law_193 ?_
  refine G_sald (pc := 194) (i := 4) (j := _) (by decide) rfl (by first | omega | decide) (by omega) dL_law_194 ?_
  refine G_aload_n (pc := 195) dL_law_195 rfl ?_
  refine K_LW (pc := 196) (k' := (k.1 + 12, k.2 + 100)) (as := [.ref 800000, .int ((gt Γ 4).2.2 (5 * n + 1)), .ref 1990000]) (rest := []) mok_L_setPrice lk_L_121 (rmB_le (a := 10100) (b := 100200) rfl (by omega) (by omega)) rfl rfl (aos0 rfl) dL_law_196 (W_setPrice hH hop) rfl ?_
  rintro v Y1 ⟨i9, hi9, rfl, e25, nx, ey⟩
  have hS := (SH_nx nx).2.2.2.2.1
  have hJ2 := (SH_nx nx).2.2.2.2.2
  have eW : wM Y1 F = Y1 := by rw [← hF, ← nx.1]; exact wM_rF Y1
  have hm := hM2 Y1 hS
  rw [eW] at hm
  show G _ _ _ _ _ _ _ [.int (nI i9)] _
  refine G_istore (pc := 199) dL_law_199 (by decide) ?_
  refine G_aload_n (pc := 201) dL_law_201 rfl ?_
  refine G_aload_n (pc := 202) dL_law_202 rfl ?_
  refine G_iload (pc := 203) dL_law_203 rfl ?_
  refine G_iconst (pc := 205) (v := nI 1) dL_law_205 (by first | rfl | decide) ?_
  refine G_iaddN (pc := 206) dL_law_206 ?_
  refine G_sald (pc := 207) (i := 4) (j := _) (by decide) rfl (by first | omega | decide) (by omega) dL_law_207 ?_
  refine K_Vn1r (pc := 208) (k' := (k.1 + 12, k.2 + 100)) mok_X10_setPrice lk_L_126 hS.1 rfl rfl (rmB_le (a := 10100) (b := 100200) rfl (show k.1 + 12 ≤ _ by omega) (show k.2 + 100 ≤ _ by omega)) (aok0 rfl) dL_law_208 hm rfl ?_
  refine G_istore (pc := 211) dL_law_211 (by decide) ?_
  refine G_aload_n (pc := 213) dL_law_213 rfl ?_
  refine K_Vn0r (pc := 214) (k' := (k.1 + 12, k.2 + 100)) mok_X10_thrown lk_L_127 hS.1 rfl rfl (rmB_le (a := 10100) (b := 100200) rfl (show k.1 + 12 ≤ _ by omega) (show k.2 + 100 ≤ _ by omega)) (aok0 rfl) dL_law_214 (C_thrown hS F') rfl ?_
  refine G_iload (pc := 217) dL_law_217 rfl ?_
  refine G_icmp_eq (pc := 219) (tgt := 224) dL_law_219 (by decide) (fun c219 => ?_) (fun c219 => ?_)
  · skip
    refine G_iload (pc := 224) dL_law_224 rfl ?_
    refine G_if_ne (pc := 226) (tgt := 241) dL_law_226 (by decide) (fun c226 => ?_) (fun c226 => ?_)
    · skip
      refine G_goto (pc := 241) (tgt := 2232) dL_law_241 (by decide) ?_
      exact G_weak wk7 (next (k.1 + 12, k.2 + 100) (wM Y1 F') _ (Nat.add_le_add_left (by decide) _) (Nat.add_le_add_left (by decide) _) nx.go rfl)
    · skip
      refine G_aload_n (pc := 229) dL_law_229 rfl ?_
      refine G_iconst (pc := 230) (v := nI 0) dL_law_230 (by first | rfl | decide) ?_
      refine G_lald (pc := 231) (j := 0) hJ2.1 rfl (show 0 < xn Y1 1990000 by rw [hJ2.2]; decide) (by omega) dL_law_231 ?_
      refine G_iload (pc := 232) dL_law_232 rfl ?_
      refine G_i2l (pc := 234) dL_law_234 ?_
      refine G_lcmp (pc := 235) dL_law_235 ?_
      refine G_if_eq (pc := 236) (tgt := 241) dL_law_236 (by decide) (fun c236 => ?_) (fun c236 => ?_)
      · skip
        refine G_goto (pc := 241) (tgt := 2232) dL_law_241 (by decide) ?_
        exact G_weak wk7 (next (k.1 + 12, k.2 + 100) (wM Y1 F') _ (Nat.add_le_add_left (by decide) _) (Nat.add_le_add_left (by decide) _) nx.go rfl)
      · exact absurd (lcmp_eq (show xJ Y1 1990000 0 = _ from ey (nI_z hi9 c226))) c236
  · exact absurd e25 c219
theorem LC_rent {Γ : GTy} (hG : GS Γ) {W : WTy} {k : Nat × Nat} {n : Nat} {Z : HS} {F A : FT} {g : GN} (h : CI n Z F g A) (hF : rF Z = F) (hn : n < 512) (hL : 5 * n + 5 ≤ (gt Γ 4).2.1) (hL2 : (gt Γ 4).2.1 ≤ 2560) (k1 : k.1 ≤ 10000) (k2 : k.2 ≤ 100000) (next : LN Γ W n k) : G Γ M_L_law room_1 W k 244 [some (.ref (sid 4)), some (.ref 800000), some (.ref 900000), some (.ref 1990000), some (.int (nI (5 * n))), none, none] [] Z := by
  have hH := h.1
  have hJ := hH.2.2.2.2.2.1
  obtain ⟨b, F', hM2, hop⟩ := op_rent hG h hn ((gt Γ 4).2.2 (5 * n + 1)) ((gt Γ 4).2.2 (5 * n + 2))
  refine G_aload_n (pc := 244) dL_law_244 rfl ?_
  refine G_aload_n (pc := 245) dL_law_245 rfl ?_
  refine G_iload (pc := 246) dL_law_246 rfl ?_
  refine G_iconst (pc := 248) (v := nI 1) dL_law_248 (by first | rfl | decide) ?_
  refine G_iaddN (pc := 249) dL_law_249 ?_
  refine G_sald (pc := 250) (i := 4) (j := _) (by decide) rfl (by first | omega | decide) (by omega) dL_law_250 ?_
  refine G_aload_n (pc := 251) dL_law_251 rfl ?_
  refine G_iload (pc := 252) dL_law_252 rfl ?_
  refine G_iconst (pc := 254) (v := nI 2) dL_law_254 (by first | rfl | decide) ?_
  refine G_iaddN (pc := 255) dL_law_255 ?_
  refine G_sald (pc := 256) (i := 4) (j := _) (by decide) rfl (by first | omega | decide) (by omega) dL_law_256 ?_
  refine G_aload_n (pc := 257) dL_law_257 rfl ?_
  refine K_LW (pc := 258) (k' := (k.1 + 12, k.2 + 100)) (as := [.ref 800000, .int ((gt Γ 4).2.2 (5 * n + 1)), .int ((gt Γ 4).2.2 (5 * n + 2)), .ref 1990000]) (rest := []) mok_L_rent lk_L_131 (rmB_le (a := 10100) (b := 100200) rfl (by omega) (by omega)) rfl rfl (fun _ => ⟨rfl, fun r hr => aosH hH r hr, fun r hr => nomatch hr⟩) dL_law_258 (W_rent hH hop) rfl ?_
  rintro v Y1 ⟨i9, hi9, rfl, e25, nx, ey⟩
  have hS := (SH_nx nx).2.2.2.2.1
  have hJ2 := (SH_nx nx).2.2.2.2.2
  have eW : wM Y1 F = Y1 := by rw [← hF, ← nx.1]; exact wM_rF Y1
  have hm := hM2 Y1 hS
  rw [eW] at hm
  show G _ _ _ _ _ _ _ [.int (nI i9)] _
  refine G_istore (pc := 261) dL_law_261 (by decide) ?_
  refine G_aload_n (pc := 263) dL_law_263 rfl ?_
  refine G_aload_n (pc := 264) dL_law_264 rfl ?_
  refine G_iload (pc := 265) dL_law_265 rfl ?_
  refine G_iconst (pc := 267) (v := nI 1) dL_law_267 (by first | rfl | decide) ?_
  refine G_iaddN (pc := 268) dL_law_268 ?_
  refine G_sald (pc := 269) (i := 4) (j := _) (by decide) rfl (by first | omega | decide) (by omega) dL_law_269 ?_
  refine G_aload_n (pc := 270) dL_law_270 rfl ?_
  refine G_iload (pc := 271) dL_law_271 rfl ?_
  refine G_iconst (pc := 273) (v := nI 2) dL_law_273 (by first | rfl | decide) ?_
  refine G_iaddN (pc := 274) dL_law_274 ?_
  refine G_sald (pc := 275) (i := 4) (j := _) (by decide) rfl (by first | omega | decide) (by omega) dL_law_275 ?_
  refine K_Vn2r (pc := 276) (k' := (k.1 + 12, k.2 + 100)) mok_X10_rent lk_L_134 hS.1 rfl rfl (rmB_le (a := 10100) (b := 100200) rfl (show k.1 + 12 ≤ _ by omega) (show k.2 + 100 ≤ _ by omega)) (aok0 rfl) dL_law_276 hm rfl ?_
  refine G_istore (pc := 279) dL_law_279 (by decide) ?_
  refine G_aload_n (pc := 281) dL_law_281 rfl ?_
  refine K_Vn0r (pc := 282) (k' := (k.1 + 12, k.2 + 100)) mok_X10_thrown lk_L_127 hS.1 rfl rfl (rmB_le (a := 10100) (b := 100200) rfl (show k.1 + 12 ≤ _ by omega) (show k.2 + 100 ≤ _ by omega)) (aok0 rfl) dL_law_282 (C_thrown hS F') rfl ?_
  refine G_iload (pc := 285) dL_law_285 rfl ?_
  refine G_icmp_eq (pc := 287) (tgt := 292) dL_law_287 (by decide) (fun c287 => ?_) (fun c287 => ?_)
  · skip
    refine G_iload (pc := 292) dL_law_292 rfl ?_
    refine G_if_ne (pc := 294) (tgt := 309) dL_law_294 (by decide) (fun c294 => ?_) (fun c294 => ?_)
    · skip
      refine G_goto (pc := 309) (tgt := 2232) dL_law_309 (by decide) ?_
      exact G_weak wk7 (next (k.1 + 12, k.2 + 100) (wM Y1 F') _ (Nat.add_le_add_left (by decide) _) (Nat.add_le_add_left (by decide) _) nx.go rfl)
    · skip
      refine G_aload_n (pc := 297) dL_law_297 rfl ?_
      refine G_iconst (pc := 298) (v := nI 0) dL_law_298 (by first | rfl | decide) ?_
      refine G_lald (pc := 299) (j := 0) hJ2.1 rfl (show 0 < xn Y1 1990000 by rw [hJ2.2]; decide) (by omega) dL_law_299 ?_
      refine G_iload (pc := 300) dL_law_300 rfl ?_
      refine G_i2l (pc := 302) dL_law_302 ?_
      refine G_lcmp (pc := 303) dL_law_303 ?_
      refine G_if_eq (pc := 304) (tgt := 309) dL_law_304 (by decide) (fun c304 => ?_) (fun c304 => ?_)
      · skip
        refine G_goto (pc := 309) (tgt := 2232) dL_law_309 (by decide) ?_
        exact G_weak wk7 (next (k.1 + 12, k.2 + 100) (wM Y1 F') _ (Nat.add_le_add_left (by decide) _) (Nat.add_le_add_left (by decide) _) nx.go rfl)
      · exact absurd (lcmp_eq (show xJ Y1 1990000 0 = _ from ey (nI_z hi9 c294))) c304
  · exact absurd e25 c287
theorem LC_end {Γ : GTy} (hG : GS Γ) {W : WTy} {k : Nat × Nat} {n : Nat} {Z : HS} {F A : FT} {g : GN} (h : CI n Z F g A) (hF : rF Z = F) (hn : n < 512) (hL : 5 * n + 5 ≤ (gt Γ 4).2.1) (hL2 : (gt Γ 4).2.1 ≤ 2560) (k1 : k.1 ≤ 10000) (k2 : k.2 ≤ 100000) (next : LN Γ W n k) : G Γ M_L_law room_1 W k 312 [some (.ref (sid 4)), some (.ref 800000), some (.ref 900000), some (.ref 1990000), some (.int (nI (5 * n))), none, none] [] Z := by
  have hH := h.1
  have hJ := hH.2.2.2.2.2.1
  obtain ⟨b, F', hM2, hop⟩ := op_end hG h hn ((gt Γ 4).2.2 (5 * n + 1))
  refine G_aload_n (pc := 312) dL_law_312 rfl ?_
  refine G_aload_n (pc := 313) dL_law_313 rfl ?_
  refine G_iload (pc := 314) dL_law_314 rfl ?_
  refine G_iconst (pc := 316) (v := nI 1) dL_law_316 (by first | rfl | decide) ?_
  refine G_iaddN (pc := 317) dL_law_317 ?_
  refine G_sald (pc := 318) (i := 4) (j := _) (by decide) rfl (by first | omega | decide) (by omega) dL_law_318 ?_
  refine G_aload_n (pc := 319) dL_law_319 rfl ?_
  refine K_LW (pc := 320) (k' := (k.1 + 12, k.2 + 100)) (as := [.ref 800000, .int ((gt Γ 4).2.2 (5 * n + 1)), .ref 1990000]) (rest := []) mok_L_end lk_L_135 (rmB_le (a := 10100) (b := 100200) rfl (by omega) (by omega)) rfl rfl (aos0 rfl) dL_law_320 (W_end hH hop) rfl ?_
  rintro v Y1 ⟨i9, hi9, rfl, e25, nx, ey⟩
  have hS := (SH_nx nx).2.2.2.2.1
  have hJ2 := (SH_nx nx).2.2.2.2.2
  have eW : wM Y1 F = Y1 := by rw [← hF, ← nx.1]; exact wM_rF Y1
  have hm := hM2 Y1 hS
  rw [eW] at hm
  show G _ _ _ _ _ _ _ [.int (nI i9)] _
  refine G_istore (pc := 323) dL_law_323 (by decide) ?_
  refine G_aload_n (pc := 325) dL_law_325 rfl ?_
  refine G_aload_n (pc := 326) dL_law_326 rfl ?_
  refine G_iload (pc := 327) dL_law_327 rfl ?_
  refine G_iconst (pc := 329) (v := nI 1) dL_law_329 (by first | rfl | decide) ?_
  refine G_iaddN (pc := 330) dL_law_330 ?_
  refine G_sald (pc := 331) (i := 4) (j := _) (by decide) rfl (by first | omega | decide) (by omega) dL_law_331 ?_
  refine K_Vn1r (pc := 332) (k' := (k.1 + 12, k.2 + 100)) mok_X10_end lk_L_137 hS.1 rfl rfl (rmB_le (a := 10100) (b := 100200) rfl (show k.1 + 12 ≤ _ by omega) (show k.2 + 100 ≤ _ by omega)) (aok0 rfl) dL_law_332 hm rfl ?_
  refine G_istore (pc := 335) dL_law_335 (by decide) ?_
  refine G_aload_n (pc := 337) dL_law_337 rfl ?_
  refine K_Vn0r (pc := 338) (k' := (k.1 + 12, k.2 + 100)) mok_X10_thrown lk_L_127 hS.1 rfl rfl (rmB_le (a := 10100) (b := 100200) rfl (show k.1 + 12 ≤ _ by omega) (show k.2 + 100 ≤ _ by omega)) (aok0 rfl) dL_law_338 (C_thrown hS F') rfl ?_
  refine G_iload (pc := 341) dL_law_341 rfl ?_
  refine G_icmp_eq (pc := 343) (tgt := 348) dL_law_343 (by decide) (fun c343 => ?_) (fun c343 => ?_)
  · skip
    refine G_iload (pc := 348) dL_law_348 rfl ?_
    refine G_if_ne (pc := 350) (tgt := 365) dL_law_350 (by decide) (fun c350 => ?_) (fun c350 => ?_)
    · skip
      refine G_goto (pc := 365) (tgt := 2232) dL_law_365 (by decide) ?_
      exact G_weak wk7 (next (k.1 + 12, k.2 + 100) (wM Y1 F') _ (Nat.add_le_add_left (by decide) _) (Nat.add_le_add_left (by decide) _) nx.go rfl)
    · skip
      refine G_aload_n (pc := 353) dL_law_353 rfl ?_
      refine G_iconst (pc := 354) (v := nI 0) dL_law_354 (by first | rfl | decide) ?_
      refine G_lald (pc := 355) (j := 0) hJ2.1 rfl (show 0 < xn Y1 1990000 by rw [hJ2.2]; decide) (by omega) dL_law_355 ?_
      refine G_iload (pc := 356) dL_law_356 rfl ?_
      refine G_i2l (pc := 358) dL_law_358 ?_
      refine G_lcmp (pc := 359) dL_law_359 ?_
      refine G_if_eq (pc := 360) (tgt := 365) dL_law_360 (by decide) (fun c360 => ?_) (fun c360 => ?_)
      · skip
        refine G_goto (pc := 365) (tgt := 2232) dL_law_365 (by decide) ?_
        exact G_weak wk7 (next (k.1 + 12, k.2 + 100) (wM Y1 F') _ (Nat.add_le_add_left (by decide) _) (Nat.add_le_add_left (by decide) _) nx.go rfl)
      · exact absurd (lcmp_eq (show xJ Y1 1990000 0 = _ from ey (nI_z hi9 c350))) c360
  · exact absurd e25 c343
theorem LC_tear {Γ : GTy} (hG : GS Γ) {W : WTy} {k : Nat × Nat} {n : Nat} {Z : HS} {F A : FT} {g : GN} (h : CI n Z F g A) (hF : rF Z = F) (hn : n < 512) (hL : 5 * n + 5 ≤ (gt Γ 4).2.1) (hL2 : (gt Γ 4).2.1 ≤ 2560) (k1 : k.1 ≤ 10000) (k2 : k.2 ≤ 100000) (next : LN Γ W n k) : G Γ M_L_law room_1 W k 368 [some (.ref (sid 4)), some (.ref 800000), some (.ref 900000), some (.ref 1990000), some (.int (nI (5 * n))), none, none] [] Z := by
  have hH := h.1
  have hJ := hH.2.2.2.2.2.1
  obtain ⟨b, F', hM2, hop⟩ := op_tear hG h hn ((gt Γ 4).2.2 (5 * n + 1))
  refine G_aload_n (pc := 368) dL_law_368 rfl ?_
  refine G_aload_n (pc := 369) dL_law_369 rfl ?_
  refine G_iload (pc := 370) dL_law_370 rfl ?_
  refine G_iconst (pc := 372) (v := nI 1) dL_law_372 (by first | rfl | decide) ?_
  refine G_iaddN (pc := 373) dL_law_373 ?_
  refine G_sald (pc := 374) (i := 4) (j := _) (by decide) rfl (by first | omega | decide) (by omega) dL_law_374 ?_
  refine G_aload_n (pc := 375) dL_law_375 rfl ?_
  refine K_LW (pc := 376) (k' := (k.1 + 12, k.2 + 100)) (as := [.ref 800000, .int ((gt Γ 4).2.2 (5 * n + 1)), .ref 1990000]) (rest := []) mok_L_tear lk_L_138 (rmB_le (a := 10100) (b := 100200) rfl (by omega) (by omega)) rfl rfl (aos0 rfl) dL_law_376 (W_tear hH hop) rfl ?_
  rintro v Y1 ⟨i9, hi9, rfl, e25, nx, ey⟩
  have hS := (SH_nx nx).2.2.2.2.1
  have hJ2 := (SH_nx nx).2.2.2.2.2
  have eW : wM Y1 F = Y1 := by rw [← hF, ← nx.1]; exact wM_rF Y1
  have hm := hM2 Y1 hS
  rw [eW] at hm
  show G _ _ _ _ _ _ _ [.int (nI i9)] _
  refine G_istore (pc := 379) dL_law_379 (by decide) ?_
  refine G_aload_n (pc := 381) dL_law_381 rfl ?_
  refine G_aload_n (pc := 382) dL_law_382 rfl ?_
  refine G_iload (pc := 383) dL_law_383 rfl ?_
  refine G_iconst (pc := 385) (v := nI 1) dL_law_385 (by first | rfl | decide) ?_
  refine G_iaddN (pc := 386) dL_law_386 ?_
  refine G_sald (pc := 387) (i := 4) (j := _) (by decide) rfl (by first | omega | decide) (by omega) dL_law_387 ?_
  refine K_Vn1r (pc := 388) (k' := (k.1 + 12, k.2 + 100)) mok_X10_tear lk_L_140 hS.1 rfl rfl (rmB_le (a := 10100) (b := 100200) rfl (show k.1 + 12 ≤ _ by omega) (show k.2 + 100 ≤ _ by omega)) (aok0 rfl) dL_law_388 hm rfl ?_
  refine G_istore (pc := 391) dL_law_391 (by decide) ?_
  refine G_aload_n (pc := 393) dL_law_393 rfl ?_
  refine K_Vn0r (pc := 394) (k' := (k.1 + 12, k.2 + 100)) mok_X10_thrown lk_L_127 hS.1 rfl rfl (rmB_le (a := 10100) (b := 100200) rfl (show k.1 + 12 ≤ _ by omega) (show k.2 + 100 ≤ _ by omega)) (aok0 rfl) dL_law_394 (C_thrown hS F') rfl ?_
  refine G_iload (pc := 397) dL_law_397 rfl ?_
  refine G_icmp_eq (pc := 399) (tgt := 404) dL_law_399 (by decide) (fun c399 => ?_) (fun c399 => ?_)
  · skip
    refine G_iload (pc := 404) dL_law_404 rfl ?_
    refine G_if_ne (pc := 406) (tgt := 421) dL_law_406 (by decide) (fun c406 => ?_) (fun c406 => ?_)
    · skip
      refine G_goto (pc := 421) (tgt := 2232) dL_law_421 (by decide) ?_
      exact G_weak wk7 (next (k.1 + 12, k.2 + 100) (wM Y1 F') _ (Nat.add_le_add_left (by decide) _) (Nat.add_le_add_left (by decide) _) nx.go rfl)
    · skip
      refine G_aload_n (pc := 409) dL_law_409 rfl ?_
      refine G_iconst (pc := 410) (v := nI 0) dL_law_410 (by first | rfl | decide) ?_
      refine G_lald (pc := 411) (j := 0) hJ2.1 rfl (show 0 < xn Y1 1990000 by rw [hJ2.2]; decide) (by omega) dL_law_411 ?_
      refine G_iload (pc := 412) dL_law_412 rfl ?_
      refine G_i2l (pc := 414) dL_law_414 ?_
      refine G_lcmp (pc := 415) dL_law_415 ?_
      refine G_if_eq (pc := 416) (tgt := 421) dL_law_416 (by decide) (fun c416 => ?_) (fun c416 => ?_)
      · skip
        refine G_goto (pc := 421) (tgt := 2232) dL_law_421 (by decide) ?_
        exact G_weak wk7 (next (k.1 + 12, k.2 + 100) (wM Y1 F') _ (Nat.add_le_add_left (by decide) _) (Nat.add_le_add_left (by decide) _) nx.go rfl)
      · exact absurd (lcmp_eq (show xJ Y1 1990000 0 = _ from ey (nI_z hi9 c406))) c416
  · exact absurd e25 c399
theorem LC_mend {Γ : GTy} (hG : GS Γ) {W : WTy} {k : Nat × Nat} {n : Nat} {Z : HS} {F A : FT} {g : GN} (h : CI n Z F g A) (hF : rF Z = F) (hn : n < 512) (hL : 5 * n + 5 ≤ (gt Γ 4).2.1) (hL2 : (gt Γ 4).2.1 ≤ 2560) (k1 : k.1 ≤ 10000) (k2 : k.2 ≤ 100000) (next : LN Γ W n k) : G Γ M_L_law room_1 W k 424 [some (.ref (sid 4)), some (.ref 800000), some (.ref 900000), some (.ref 1990000), some (.int (nI (5 * n))), none, none] [] Z := by
  have hH := h.1
  have hJ := hH.2.2.2.2.2.1
  obtain ⟨b, F', hM2, hop⟩ := op_mend hG h hn ((gt Γ 4).2.2 (5 * n + 1))
  refine G_aload_n (pc := 424) dL_law_424 rfl ?_
  refine G_aload_n (pc := 425) dL_law_425 rfl ?_
  refine G_iload (pc := 426) dL_law_426 rfl ?_
  refine G_iconst (pc := 428) (v := nI 1) dL_law_428 (by first | rfl | decide) ?_
  refine G_iaddN (pc := 429) dL_law_429 ?_
  refine G_sald (pc := 430) (i := 4) (j := _) (by decide) rfl (by first | omega | decide) (by omega) dL_law_430 ?_
  refine G_aload_n (pc := 431) dL_law_431 rfl ?_
  refine K_LW (pc := 432) (k' := (k.1 + 12, k.2 + 100)) (as := [.ref 800000, .int ((gt Γ 4).2.2 (5 * n + 1)), .ref 1990000]) (rest := []) mok_L_mend lk_L_141 (rmB_le (a := 10100) (b := 100200) rfl (by omega) (by omega)) rfl rfl (aos0 rfl) dL_law_432 (W_mend hH hop) rfl ?_
  rintro v Y1 ⟨i9, hi9, rfl, e25, nx, ey⟩
  have hS := (SH_nx nx).2.2.2.2.1
  have hJ2 := (SH_nx nx).2.2.2.2.2
  have eW : wM Y1 F = Y1 := by rw [← hF, ← nx.1]; exact wM_rF Y1
  have hm := hM2 Y1 hS
  rw [eW] at hm
  show G _ _ _ _ _ _ _ [.int (nI i9)] _
  refine G_istore (pc := 435) dL_law_435 (by decide) ?_
  refine G_aload_n (pc := 437) dL_law_437 rfl ?_
  refine G_aload_n (pc := 438) dL_law_438 rfl ?_
  refine G_iload (pc := 439) dL_law_439 rfl ?_
  refine G_iconst (pc := 441) (v := nI 1) dL_law_441 (by first | rfl | decide) ?_
  refine G_iaddN (pc := 442) dL_law_442 ?_
  refine G_sald (pc := 443) (i := 4) (j := _) (by decide) rfl (by first | omega | decide) (by omega) dL_law_443 ?_
  refine K_Vn1r (pc := 444) (k' := (k.1 + 12, k.2 + 100)) mok_X10_mend lk_L_143 hS.1 rfl rfl (rmB_le (a := 10100) (b := 100200) rfl (show k.1 + 12 ≤ _ by omega) (show k.2 + 100 ≤ _ by omega)) (aok0 rfl) dL_law_444 hm rfl ?_
  refine G_istore (pc := 447) dL_law_447 (by decide) ?_
  refine G_aload_n (pc := 449) dL_law_449 rfl ?_
  refine K_Vn0r (pc := 450) (k' := (k.1 + 12, k.2 + 100)) mok_X10_thrown lk_L_127 hS.1 rfl rfl (rmB_le (a := 10100) (b := 100200) rfl (show k.1 + 12 ≤ _ by omega) (show k.2 + 100 ≤ _ by omega)) (aok0 rfl) dL_law_450 (C_thrown hS F') rfl ?_
  refine G_iload (pc := 453) dL_law_453 rfl ?_
  refine G_icmp_eq (pc := 455) (tgt := 460) dL_law_455 (by decide) (fun c455 => ?_) (fun c455 => ?_)
  · skip
    refine G_iload (pc := 460) dL_law_460 rfl ?_
    refine G_if_ne (pc := 462) (tgt := 477) dL_law_462 (by decide) (fun c462 => ?_) (fun c462 => ?_)
    · skip
      refine G_goto (pc := 477) (tgt := 2232) dL_law_477 (by decide) ?_
      exact G_weak wk7 (next (k.1 + 12, k.2 + 100) (wM Y1 F') _ (Nat.add_le_add_left (by decide) _) (Nat.add_le_add_left (by decide) _) nx.go rfl)
    · skip
      refine G_aload_n (pc := 465) dL_law_465 rfl ?_
      refine G_iconst (pc := 466) (v := nI 0) dL_law_466 (by first | rfl | decide) ?_
      refine G_lald (pc := 467) (j := 0) hJ2.1 rfl (show 0 < xn Y1 1990000 by rw [hJ2.2]; decide) (by omega) dL_law_467 ?_
      refine G_iload (pc := 468) dL_law_468 rfl ?_
      refine G_i2l (pc := 470) dL_law_470 ?_
      refine G_lcmp (pc := 471) dL_law_471 ?_
      refine G_if_eq (pc := 472) (tgt := 477) dL_law_472 (by decide) (fun c472 => ?_) (fun c472 => ?_)
      · skip
        refine G_goto (pc := 477) (tgt := 2232) dL_law_477 (by decide) ?_
        exact G_weak wk7 (next (k.1 + 12, k.2 + 100) (wM Y1 F') _ (Nat.add_le_add_left (by decide) _) (Nat.add_le_add_left (by decide) _) nx.go rfl)
      · exact absurd (lcmp_eq (show xJ Y1 1990000 0 = _ from ey (nI_z hi9 c462))) c472
  · exact absurd e25 c455
theorem LC_pass {Γ : GTy} (hG : GS Γ) {W : WTy} {k : Nat × Nat} {n : Nat} {Z : HS} {F A : FT} {g : GN} (h : CI n Z F g A) (hF : rF Z = F) (hn : n < 512) (hL : 5 * n + 5 ≤ (gt Γ 4).2.1) (hL2 : (gt Γ 4).2.1 ≤ 2560) (k1 : k.1 ≤ 10000) (k2 : k.2 ≤ 100000) (next : LN Γ W n k) : G Γ M_L_law room_1 W k 480 [some (.ref (sid 4)), some (.ref 800000), some (.ref 900000), some (.ref 1990000), some (.int (nI (5 * n))), none, none] [] Z := by
  have hH := h.1
  have hJ := hH.2.2.2.2.2.1
  obtain ⟨b, F', hM2, hop⟩ := op_pass hG h hn ((gt Γ 4).2.2 (5 * n + 1))
  refine G_aload_n (pc := 480) dL_law_480 rfl ?_
  refine G_aload_n (pc := 481) dL_law_481 rfl ?_
  refine G_iload (pc := 482) dL_law_482 rfl ?_
  refine G_iconst (pc := 484) (v := nI 1) dL_law_484 (by first | rfl | decide) ?_
  refine G_iaddN (pc := 485) dL_law_485 ?_
  refine G_sald (pc := 486) (i := 4) (j := _) (by decide) rfl (by first | omega | decide) (by omega) dL_law_486 ?_
  refine G_aload_n (pc := 487) dL_law_487 rfl ?_
  refine K_LW (pc := 488) (k' := (k.1 + 12, k.2 + 100)) (as := [.ref 800000, .int ((gt Γ 4).2.2 (5 * n + 1)), .ref 1990000]) (rest := []) mok_L_pass lk_L_144 (rmB_le (a := 10100) (b := 100200) rfl (by omega) (by omega)) rfl rfl (aos0 rfl) dL_law_488 (W_pass hH hop) rfl ?_
  rintro v Y1 ⟨i9, hi9, rfl, e25, nx, ey⟩
  have hS := (SH_nx nx).2.2.2.2.1
  have hJ2 := (SH_nx nx).2.2.2.2.2
  have eW : wM Y1 F = Y1 := by rw [← hF, ← nx.1]; exact wM_rF Y1
  have hm := hM2 Y1 hS
  rw [eW] at hm
  show G _ _ _ _ _ _ _ [.int (nI i9)] _
  refine G_istore (pc := 491) dL_law_491 (by decide) ?_
  refine G_aload_n (pc := 493) dL_law_493 rfl ?_
  refine G_aload_n (pc := 494) dL_law_494 rfl ?_
  refine G_iload (pc := 495) dL_law_495 rfl ?_
  refine G_iconst (pc := 497) (v := nI 1) dL_law_497 (by first | rfl | decide) ?_
  refine G_iaddN (pc := 498) dL_law_498 ?_
  refine G_sald (pc := 499) (i := 4) (j := _) (by decide) rfl (by first | omega | decide) (by omega) dL_law_499 ?_
  refine K_Vn1r (pc := 500) (k' := (k.1 + 12, k.2 + 100)) mok_X10_pass lk_L_146 hS.1 rfl rfl (rmB_le (a := 10100) (b := 100200) rfl (show k.1 + 12 ≤ _ by omega) (show k.2 + 100 ≤ _ by omega)) (aok0 rfl) dL_law_500 hm rfl ?_
  refine G_istore (pc := 503) dL_law_503 (by decide) ?_
  refine G_aload_n (pc := 505) dL_law_505 rfl ?_
  refine K_Vn0r (pc := 506) (k' := (k.1 + 12, k.2 + 100)) mok_X10_thrown lk_L_127 hS.1 rfl rfl (rmB_le (a := 10100) (b := 100200) rfl (show k.1 + 12 ≤ _ by omega) (show k.2 + 100 ≤ _ by omega)) (aok0 rfl) dL_law_506 (C_thrown hS F') rfl ?_
  refine G_iload (pc := 509) dL_law_509 rfl ?_
  refine G_icmp_eq (pc := 511) (tgt := 516) dL_law_511 (by decide) (fun c511 => ?_) (fun c511 => ?_)
  · skip
    refine G_iload (pc := 516) dL_law_516 rfl ?_
    refine G_if_ne (pc := 518) (tgt := 533) dL_law_518 (by decide) (fun c518 => ?_) (fun c518 => ?_)
    · skip
      refine G_goto (pc := 533) (tgt := 2232) dL_law_533 (by decide) ?_
      exact G_weak wk7 (next (k.1 + 12, k.2 + 100) (wM Y1 F') _ (Nat.add_le_add_left (by decide) _) (Nat.add_le_add_left (by decide) _) nx.go rfl)
    · skip
      refine G_aload_n (pc := 521) dL_law_521 rfl ?_
      refine G_iconst (pc := 522) (v := nI 0) dL_law_522 (by first | rfl | decide) ?_
      refine G_lald (pc := 523) (j := 0) hJ2.1 rfl (show 0 < xn Y1 1990000 by rw [hJ2.2]; decide) (by omega) dL_law_523 ?_
      refine G_iload (pc := 524) dL_law_524 rfl ?_
      refine G_i2l (pc := 526) dL_law_526 ?_
      refine G_lcmp (pc := 527) dL_law_527 ?_
      refine G_if_eq (pc := 528) (tgt := 533) dL_law_528 (by decide) (fun c528 => ?_) (fun c528 => ?_)
      · skip
        refine G_goto (pc := 533) (tgt := 2232) dL_law_533 (by decide) ?_
        exact G_weak wk7 (next (k.1 + 12, k.2 + 100) (wM Y1 F') _ (Nat.add_le_add_left (by decide) _) (Nat.add_le_add_left (by decide) _) nx.go rfl)
      · exact absurd (lcmp_eq (show xJ Y1 1990000 0 = _ from ey (nI_z hi9 c518))) c528
  · exact absurd e25 c511
theorem LC_begin0 {Γ : GTy} (hG : GS Γ) {W : WTy} {k : Nat × Nat} {n : Nat} {Z : HS} {F A : FT} {g : GN} (h : CI n Z F g A) (hF : rF Z = F) (hn : n < 512) (hL : 5 * n + 5 ≤ (gt Γ 4).2.1) (hL2 : (gt Γ 4).2.1 ≤ 2560) (k1 : k.1 ≤ 10000) (k2 : k.2 ≤ 100000) (hb : (gt Γ 4).2.2 (5 * n + 4) = 0) (next : LN Γ W n k) : G Γ M_L_law room_1 W k 536 [some (.ref (sid 4)), some (.ref 800000), some (.ref 900000), some (.ref 1990000), some (.int (nI (5 * n))), none, none] [] Z := by
  have hH := h.1
  have hJ := hH.2.2.2.2.2.1
  obtain ⟨b, F', hM2, hop⟩ := op_begin hG h hn ((gt Γ 4).2.2 (5 * n + 1)) ((gt Γ 4).2.2 (5 * n + 2)) ((gt Γ 4).2.2 (5 * n + 3)) (nI 0) (Or.inl rfl)
  refine G_aload_n (pc := 536) dL_law_536 rfl ?_
  refine G_aload_n (pc := 537) dL_law_537 rfl ?_
  refine G_iload (pc := 538) dL_law_538 rfl ?_
  refine G_iconst (pc := 540) (v := nI 1) dL_law_540 (by first | rfl | decide) ?_
  refine G_iaddN (pc := 541) dL_law_541 ?_
  refine G_sald (pc := 542) (i := 4) (j := _) (by decide) rfl (by first | omega | decide) (by omega) dL_law_542 ?_
  refine G_aload_n (pc := 543) dL_law_543 rfl ?_
  refine G_iload (pc := 544) dL_law_544 rfl ?_
  refine G_iconst (pc := 546) (v := nI 2) dL_law_546 (by first | rfl | decide) ?_
  refine G_iaddN (pc := 547) dL_law_547 ?_
  refine G_sald (pc := 548) (i := 4) (j := _) (by decide) rfl (by first | omega | decide) (by omega) dL_law_548 ?_
  refine G_aload_n (pc := 549) dL_law_549 rfl ?_
  refine G_iload (pc := 550) dL_law_550 rfl ?_
  refine G_iconst (pc := 552) (v := nI 3) dL_law_552 (by first | rfl | decide) ?_
  refine G_iaddN (pc := 553) dL_law_553 ?_
  refine G_sald (pc := 554) (i := 4) (j := _) (by decide) rfl (by first | omega | decide) (by omega) dL_law_554 ?_
  refine G_aload_n (pc := 555) dL_law_555 rfl ?_
  refine G_iload (pc := 556) dL_law_556 rfl ?_
  refine G_iconst (pc := 558) (v := nI 4) dL_law_558 (by first | rfl | decide) ?_
  refine G_iaddN (pc := 559) dL_law_559 ?_
  refine G_sald (pc := 560) (i := 4) (j := _) (by decide) rfl (by first | omega | decide) (by omega) dL_law_560 ?_
  refine G_if_eq (pc := 561) (tgt := 568) dL_law_561 (by decide) (fun c561 => ?_) (fun c561 => ?_)
  · skip
    refine G_iconst (pc := 568) (v := nI 0) dL_law_568 (by first | rfl | decide) ?_
    refine G_aload_n (pc := 569) dL_law_569 rfl ?_
    refine K_LW (pc := 570) (k' := (k.1 + 12, k.2 + 100)) (as := [.ref 800000, .int ((gt Γ 4).2.2 (5 * n + 1)), .int ((gt Γ 4).2.2 (5 * n + 2)), .int ((gt Γ 4).2.2 (5 * n + 3)), .int (nI 0), .ref 1990000]) (rest := []) mok_L_begin lk_L_147 (rmB_le (a := 10100) (b := 100200) rfl (by omega) (by omega)) rfl rfl (fun _ => ⟨rfl, fun r hr => aosH hH r hr, fun r hr => nomatch hr⟩) dL_law_570 (W_begin hH hop) rfl ?_
    rintro v Y1 ⟨i9, hi9, rfl, e25, nx, ey⟩
    have hS := (SH_nx nx).2.2.2.2.1
    have hJ2 := (SH_nx nx).2.2.2.2.2
    have eW : wM Y1 F = Y1 := by rw [← hF, ← nx.1]; exact wM_rF Y1
    have hm := hM2 Y1 hS
    rw [eW] at hm
    show G _ _ _ _ _ _ _ [.int (nI i9)] _
    refine G_istore (pc := 573) dL_law_573 (by decide) ?_
    refine G_aload_n (pc := 575) dL_law_575 rfl ?_
    refine G_aload_n (pc := 576) dL_law_576 rfl ?_
    refine G_iload (pc := 577) dL_law_577 rfl ?_
    refine G_iconst (pc := 579) (v := nI 1) dL_law_579 (by first | rfl | decide) ?_
    refine G_iaddN (pc := 580) dL_law_580 ?_
    refine G_sald (pc := 581) (i := 4) (j := _) (by decide) rfl (by first | omega | decide) (by omega) dL_law_581 ?_
    refine G_aload_n (pc := 582) dL_law_582 rfl ?_
    refine G_iload (pc := 583) dL_law_583 rfl ?_
    refine G_iconst (pc := 585) (v := nI 2) dL_law_585 (by first | rfl | decide) ?_
    refine G_iaddN (pc := 586) dL_law_586 ?_
    refine G_sald (pc := 587) (i := 4) (j := _) (by decide) rfl (by first | omega | decide) (by omega) dL_law_587 ?_
    refine G_aload_n (pc := 588) dL_law_588 rfl ?_
    refine G_iload (pc := 589) dL_law_589 rfl ?_
    refine G_iconst (pc := 591) (v := nI 3) dL_law_591 (by first | rfl | decide) ?_
    refine G_iaddN (pc := 592) dL_law_592 ?_
    refine G_sald (pc := 593) (i := 4) (j := _) (by decide) rfl (by first | omega | decide) (by omega) dL_law_593 ?_
    refine G_aload_n (pc := 594) dL_law_594 rfl ?_
    refine G_iload (pc := 595) dL_law_595 rfl ?_
    refine G_iconst (pc := 597) (v := nI 4) dL_law_597 (by first | rfl | decide) ?_
    refine G_iaddN (pc := 598) dL_law_598 ?_
    refine G_sald (pc := 599) (i := 4) (j := _) (by decide) rfl (by first | omega | decide) (by omega) dL_law_599 ?_
    refine G_if_eq (pc := 600) (tgt := 607) dL_law_600 (by decide) (fun c600 => ?_) (fun c600 => ?_)
    · skip
      refine G_iconst (pc := 607) (v := nI 0) dL_law_607 (by first | rfl | decide) ?_
      refine K_Vn4r (pc := 608) (k' := (k.1 + 12, k.2 + 100)) mok_X10_begin lk_L_150 hS.1 rfl rfl (rmB_le (a := 10100) (b := 100200) rfl (show k.1 + 12 ≤ _ by omega) (show k.2 + 100 ≤ _ by omega)) (aok0 rfl) dL_law_608 hm rfl ?_
      refine G_istore (pc := 611) dL_law_611 (by decide) ?_
      refine G_aload_n (pc := 613) dL_law_613 rfl ?_
      refine K_Vn0r (pc := 614) (k' := (k.1 + 12, k.2 + 100)) mok_X10_thrown lk_L_127 hS.1 rfl rfl (rmB_le (a := 10100) (b := 100200) rfl (show k.1 + 12 ≤ _ by omega) (show k.2 + 100 ≤ _ by omega)) (aok0 rfl) dL_law_614 (C_thrown hS F') rfl ?_
      refine G_iload (pc := 617) dL_law_617 rfl ?_
      refine G_icmp_eq (pc := 619) (tgt := 624) dL_law_619 (by decide) (fun c619 => ?_) (fun c619 => ?_)
      · skip
        refine G_iload (pc := 624) dL_law_624 rfl ?_
        refine G_if_ne (pc := 626) (tgt := 641) dL_law_626 (by decide) (fun c626 => ?_) (fun c626 => ?_)
        · skip
          refine G_goto (pc := 641) (tgt := 2232) dL_law_641 (by decide) ?_
          exact G_weak wk7 (next (k.1 + 12, k.2 + 100) (wM Y1 F') _ (Nat.add_le_add_left (by decide) _) (Nat.add_le_add_left (by decide) _) nx.go rfl)
        · skip
          refine G_aload_n (pc := 629) dL_law_629 rfl ?_
          refine G_iconst (pc := 630) (v := nI 0) dL_law_630 (by first | rfl | decide) ?_
          refine G_lald (pc := 631) (j := 0) hJ2.1 rfl (show 0 < xn Y1 1990000 by rw [hJ2.2]; decide) (by omega) dL_law_631 ?_
          refine G_iload (pc := 632) dL_law_632 rfl ?_
          refine G_i2l (pc := 634) dL_law_634 ?_
          refine G_lcmp (pc := 635) dL_law_635 ?_
          refine G_if_eq (pc := 636) (tgt := 641) dL_law_636 (by decide) (fun c636 => ?_) (fun c636 => ?_)
          · skip
            refine G_goto (pc := 641) (tgt := 2232) dL_law_641 (by decide) ?_
            exact G_weak wk7 (next (k.1 + 12, k.2 + 100) (wM Y1 F') _ (Nat.add_le_add_left (by decide) _) (Nat.add_le_add_left (by decide) _) nx.go rfl)
          · exact absurd (lcmp_eq (show xJ Y1 1990000 0 = _ from ey (nI_z hi9 c626))) c636
      · exact absurd e25 c619
    · exact absurd hb c600
  · exact absurd hb c561
theorem LC_begin1 {Γ : GTy} (hG : GS Γ) {W : WTy} {k : Nat × Nat} {n : Nat} {Z : HS} {F A : FT} {g : GN} (h : CI n Z F g A) (hF : rF Z = F) (hn : n < 512) (hL : 5 * n + 5 ≤ (gt Γ 4).2.1) (hL2 : (gt Γ 4).2.1 ≤ 2560) (k1 : k.1 ≤ 10000) (k2 : k.2 ≤ 100000) (hb : ¬ (gt Γ 4).2.2 (5 * n + 4) = 0) (next : LN Γ W n k) : G Γ M_L_law room_1 W k 536 [some (.ref (sid 4)), some (.ref 800000), some (.ref 900000), some (.ref 1990000), some (.int (nI (5 * n))), none, none] [] Z := by
  have hH := h.1
  have hJ := hH.2.2.2.2.2.1
  obtain ⟨b, F', hM2, hop⟩ := op_begin hG h hn ((gt Γ 4).2.2 (5 * n + 1)) ((gt Γ 4).2.2 (5 * n + 2)) ((gt Γ 4).2.2 (5 * n + 3)) (nI 1) (Or.inr rfl)
  refine G_aload_n (pc := 536) dL_law_536 rfl ?_
  refine G_aload_n (pc := 537) dL_law_537 rfl ?_
  refine G_iload (pc := 538) dL_law_538 rfl ?_
  refine G_iconst (pc := 540) (v := nI 1) dL_law_540 (by first | rfl | decide) ?_
  refine G_iaddN (pc := 541) dL_law_541 ?_
  refine G_sald (pc := 542) (i := 4) (j := _) (by decide) rfl (by first | omega | decide) (by omega) dL_law_542 ?_
  refine G_aload_n (pc := 543) dL_law_543 rfl ?_
  refine G_iload (pc := 544) dL_law_544 rfl ?_
  refine G_iconst (pc := 546) (v := nI 2) dL_law_546 (by first | rfl | decide) ?_
  refine G_iaddN (pc := 547) dL_law_547 ?_
  refine G_sald (pc := 548) (i := 4) (j := _) (by decide) rfl (by first | omega | decide) (by omega) dL_law_548 ?_
  refine G_aload_n (pc := 549) dL_law_549 rfl ?_
  refine G_iload (pc := 550) dL_law_550 rfl ?_
  refine G_iconst (pc := 552) (v := nI 3) dL_law_552 (by first | rfl | decide) ?_
  refine G_iaddN (pc := 553) dL_law_553 ?_
  refine G_sald (pc := 554) (i := 4) (j := _) (by decide) rfl (by first | omega | decide) (by omega) dL_law_554 ?_
  refine G_aload_n (pc := 555) dL_law_555 rfl ?_
  refine G_iload (pc := 556) dL_law_556 rfl ?_
  refine G_iconst (pc := 558) (v := nI 4) dL_law_558 (by first | rfl | decide) ?_
  refine G_iaddN (pc := 559) dL_law_559 ?_
  refine G_sald (pc := 560) (i := 4) (j := _) (by decide) rfl (by first | omega | decide) (by omega) dL_law_560 ?_
  refine G_if_eq (pc := 561) (tgt := 568) dL_law_561 (by decide) (fun c561 => ?_) (fun c561 => ?_)
  · exact absurd c561 hb
  · skip
    refine G_iconst (pc := 564) (v := nI 1) dL_law_564 (by first | rfl | decide) ?_
    refine G_goto (pc := 565) (tgt := 569) dL_law_565 (by decide) ?_
    refine G_aload_n (pc := 569) dL_law_569 rfl ?_
    refine K_LW (pc := 570) (k' := (k.1 + 12, k.2 + 100)) (as := [.ref 800000, .int ((gt Γ 4).2.2 (5 * n + 1)), .int ((gt Γ 4).2.2 (5 * n + 2)), .int ((gt Γ 4).2.2 (5 * n + 3)), .int (nI 1), .ref 1990000]) (rest := []) mok_L_begin lk_L_147 (rmB_le (a := 10100) (b := 100200) rfl (by omega) (by omega)) rfl rfl (fun _ => ⟨rfl, fun r hr => aosH hH r hr, fun r hr => nomatch hr⟩) dL_law_570 (W_begin hH hop) rfl ?_
    rintro v Y1 ⟨i9, hi9, rfl, e25, nx, ey⟩
    have hS := (SH_nx nx).2.2.2.2.1
    have hJ2 := (SH_nx nx).2.2.2.2.2
    have eW : wM Y1 F = Y1 := by rw [← hF, ← nx.1]; exact wM_rF Y1
    have hm := hM2 Y1 hS
    rw [eW] at hm
    show G _ _ _ _ _ _ _ [.int (nI i9)] _
    refine G_istore (pc := 573) dL_law_573 (by decide) ?_
    refine G_aload_n (pc := 575) dL_law_575 rfl ?_
    refine G_aload_n (pc := 576) dL_law_576 rfl ?_
    refine G_iload (pc := 577) dL_law_577 rfl ?_
    refine G_iconst (pc := 579) (v := nI 1) dL_law_579 (by first | rfl | decide) ?_
    refine G_iaddN (pc := 580) dL_law_580 ?_
    refine G_sald (pc := 581) (i := 4) (j := _) (by decide) rfl (by first | omega | decide) (by omega) dL_law_581 ?_
    refine G_aload_n (pc := 582) dL_law_582 rfl ?_
    refine G_iload (pc := 583) dL_law_583 rfl ?_
    refine G_iconst (pc := 585) (v := nI 2) dL_law_585 (by first | rfl | decide) ?_
    refine G_iaddN (pc := 586) dL_law_586 ?_
    refine G_sald (pc := 587) (i := 4) (j := _) (by decide) rfl (by first | omega | decide) (by omega) dL_law_587 ?_
    refine G_aload_n (pc := 588) dL_law_588 rfl ?_
    refine G_iload (pc := 589) dL_law_589 rfl ?_
    refine G_iconst (pc := 591) (v := nI 3) dL_law_591 (by first | rfl | decide) ?_
    refine G_iaddN (pc := 592) dL_law_592 ?_
    refine G_sald (pc := 593) (i := 4) (j := _) (by decide) rfl (by first | omega | decide) (by omega) dL_law_593 ?_
    refine G_aload_n (pc := 594) dL_law_594 rfl ?_
    refine G_iload (pc := 595) dL_law_595 rfl ?_
    refine G_iconst (pc := 597) (v := nI 4) dL_law_597 (by first | rfl | decide) ?_
    refine G_iaddN (pc := 598) dL_law_598 ?_
    refine G_sald (pc := 599) (i := 4) (j := _) (by decide) rfl (by first | omega | decide) (by omega) dL_law_599 ?_
    refine G_if_eq (pc := 600) (tgt := 607) dL_law_600 (by decide) (fun c600 => ?_) (fun c600 => ?_)
    · exact absurd c600 hb
    · skip
      refine G_iconst (pc := 603) (v := nI 1) dL_law_603 (by first | rfl | decide) ?_
      refine G_goto (pc := 604) (tgt := 608) dL_law_604 (by decide) ?_
      refine K_Vn4r (pc := 608) (k' := (k.1 + 12, k.2 + 100)) mok_X10_begin lk_L_150 hS.1 rfl rfl (rmB_le (a := 10100) (b := 100200) rfl (show k.1 + 12 ≤ _ by omega) (show k.2 + 100 ≤ _ by omega)) (aok0 rfl) dL_law_608 hm rfl ?_
      refine G_istore (pc := 611) dL_law_611 (by decide) ?_
      refine G_aload_n (pc := 613) dL_law_613 rfl ?_
      refine K_Vn0r (pc := 614) (k' := (k.1 + 12, k.2 + 100)) mok_X10_thrown lk_L_127 hS.1 rfl rfl (rmB_le (a := 10100) (b := 100200) rfl (show k.1 + 12 ≤ _ by omega) (show k.2 + 100 ≤ _ by omega)) (aok0 rfl) dL_law_614 (C_thrown hS F') rfl ?_
      refine G_iload (pc := 617) dL_law_617 rfl ?_
      refine G_icmp_eq (pc := 619) (tgt := 624) dL_law_619 (by decide) (fun c619 => ?_) (fun c619 => ?_)
      · skip
        refine G_iload (pc := 624) dL_law_624 rfl ?_
        refine G_if_ne (pc := 626) (tgt := 641) dL_law_626 (by decide) (fun c626 => ?_) (fun c626 => ?_)
        · skip
          refine G_goto (pc := 641) (tgt := 2232) dL_law_641 (by decide) ?_
          exact G_weak wk7 (next (k.1 + 12, k.2 + 100) (wM Y1 F') _ (Nat.add_le_add_left (by decide) _) (Nat.add_le_add_left (by decide) _) nx.go rfl)
        · skip
          refine G_aload_n (pc := 629) dL_law_629 rfl ?_
          refine G_iconst (pc := 630) (v := nI 0) dL_law_630 (by first | rfl | decide) ?_
          refine G_lald (pc := 631) (j := 0) hJ2.1 rfl (show 0 < xn Y1 1990000 by rw [hJ2.2]; decide) (by omega) dL_law_631 ?_
          refine G_iload (pc := 632) dL_law_632 rfl ?_
          refine G_i2l (pc := 634) dL_law_634 ?_
          refine G_lcmp (pc := 635) dL_law_635 ?_
          refine G_if_eq (pc := 636) (tgt := 641) dL_law_636 (by decide) (fun c636 => ?_) (fun c636 => ?_)
          · skip
            refine G_goto (pc := 641) (tgt := 2232) dL_law_641 (by decide) ?_
            exact G_weak wk7 (next (k.1 + 12, k.2 + 100) (wM Y1 F') _ (Nat.add_le_add_left (by decide) _) (Nat.add_le_add_left (by decide) _) nx.go rfl)
          · exact absurd (lcmp_eq (show xJ Y1 1990000 0 = _ from ey (nI_z hi9 c626))) c636
      · exact absurd e25 c619
theorem LC_resume {Γ : GTy} (hG : GS Γ) {W : WTy} {k : Nat × Nat} {n : Nat} {Z : HS} {F A : FT} {g : GN} (h : CI n Z F g A) (hF : rF Z = F) (hn : n < 512) (hL : 5 * n + 5 ≤ (gt Γ 4).2.1) (hL2 : (gt Γ 4).2.1 ≤ 2560) (k1 : k.1 ≤ 10000) (k2 : k.2 ≤ 100000) (next : LN Γ W n k) : G Γ M_L_law room_1 W k 644 [some (.ref (sid 4)), some (.ref 800000), some (.ref 900000), some (.ref 1990000), some (.int (nI (5 * n))), none, none] [] Z := by
  have hH := h.1
  have hJ := hH.2.2.2.2.2.1
  obtain ⟨b, F', hM2, hop⟩ := op_resume hG h hn ((gt Γ 4).2.2 (5 * n + 1)) ((gt Γ 4).2.2 (5 * n + 2))
  refine G_aload_n (pc := 644) dL_law_644 rfl ?_
  refine G_aload_n (pc := 645) dL_law_645 rfl ?_
  refine G_iload (pc := 646) dL_law_646 rfl ?_
  refine G_iconst (pc := 648) (v := nI 1) dL_law_648 (by first | rfl | decide) ?_
  refine G_iaddN (pc := 649) dL_law_649 ?_
  refine G_sald (pc := 650) (i := 4) (j := _) (by decide) rfl (by first | omega | decide) (by omega) dL_law_650 ?_
  refine G_aload_n (pc := 651) dL_law_651 rfl ?_
  refine G_iload (pc := 652) dL_law_652 rfl ?_
  refine G_iconst (pc := 654) (v := nI 2) dL_law_654 (by first | rfl | decide) ?_
  refine G_iaddN (pc := 655) dL_law_655 ?_
  refine G_sald (pc := 656) (i := 4) (j := _) (by decide) rfl (by first | omega | decide) (by omega) dL_law_656 ?_
  refine G_aload_n (pc := 657) dL_law_657 rfl ?_
  refine K_LW (pc := 658) (k' := (k.1 + 12, k.2 + 100)) (as := [.ref 800000, .int ((gt Γ 4).2.2 (5 * n + 1)), .int ((gt Γ 4).2.2 (5 * n + 2)), .ref 1990000]) (rest := []) mok_L_resume lk_L_151 (rmB_le (a := 10100) (b := 100200) rfl (by omega) (by omega)) rfl rfl (fun _ => ⟨rfl, fun r hr => aosH hH r hr, fun r hr => nomatch hr⟩) dL_law_658 (W_resume hH hop) rfl ?_
  rintro v Y1 ⟨i9, hi9, rfl, e25, nx, ey⟩
  have hS := (SH_nx nx).2.2.2.2.1
  have hJ2 := (SH_nx nx).2.2.2.2.2
  have eW : wM Y1 F = Y1 := by rw [← hF, ← nx.1]; exact wM_rF Y1
  have hm := hM2 Y1 hS
  rw [eW] at hm
  show G _ _ _ _ _ _ _ [.int (nI i9)] _
  refine G_istore (pc := 661) dL_law_661 (by decide) ?_
  refine G_aload_n (pc := 663) dL_law_663 rfl ?_
  refine G_aload_n (pc := 664) dL_law_664 rfl ?_
  refine G_iload (pc := 665) dL_law_665 rfl ?_
  refine G_iconst (pc := 667) (v := nI 1) dL_law_667 (by first | rfl | decide) ?_
  refine G_iaddN (pc := 668) dL_law_668 ?_
  refine G_sald (pc := 669) (i := 4) (j := _) (by decide) rfl (by first | omega | decide) (by omega) dL_law_669 ?_
  refine G_aload_n (pc := 670) dL_law_670 rfl ?_
  refine G_iload (pc := 671) dL_law_671 rfl ?_
  refine G_iconst (pc := 673) (v := nI 2) dL_law_673 (by first | rfl | decide) ?_
  refine G_iaddN (pc := 674) dL_law_674 ?_
  refine G_sald (pc := 675) (i := 4) (j := _) (by decide) rfl (by first | omega | decide) (by omega) dL_law_675 ?_
  refine K_Vn2r (pc := 676) (k' := (k.1 + 12, k.2 + 100)) mok_X10_resume lk_L_153 hS.1 rfl rfl (rmB_le (a := 10100) (b := 100200) rfl (show k.1 + 12 ≤ _ by omega) (show k.2 + 100 ≤ _ by omega)) (aok0 rfl) dL_law_676 hm rfl ?_
  refine G_istore (pc := 679) dL_law_679 (by decide) ?_
  refine G_aload_n (pc := 681) dL_law_681 rfl ?_
  refine K_Vn0r (pc := 682) (k' := (k.1 + 12, k.2 + 100)) mok_X10_thrown lk_L_127 hS.1 rfl rfl (rmB_le (a := 10100) (b := 100200) rfl (show k.1 + 12 ≤ _ by omega) (show k.2 + 100 ≤ _ by omega)) (aok0 rfl) dL_law_682 (C_thrown hS F') rfl ?_
  refine G_iload (pc := 685) dL_law_685 rfl ?_
  refine G_icmp_eq (pc := 687) (tgt := 692) dL_law_687 (by decide) (fun c687 => ?_) (fun c687 => ?_)
  · skip
    refine G_iload (pc := 692) dL_law_692 rfl ?_
    refine G_if_ne (pc := 694) (tgt := 709) dL_law_694 (by decide) (fun c694 => ?_) (fun c694 => ?_)
    · skip
      refine G_goto (pc := 709) (tgt := 2232) dL_law_709 (by decide) ?_
      exact G_weak wk7 (next (k.1 + 12, k.2 + 100) (wM Y1 F') _ (Nat.add_le_add_left (by decide) _) (Nat.add_le_add_left (by decide) _) nx.go rfl)
    · skip
      refine G_aload_n (pc := 697) dL_law_697 rfl ?_
      refine G_iconst (pc := 698) (v := nI 0) dL_law_698 (by first | rfl | decide) ?_
      refine G_lald (pc := 699) (j := 0) hJ2.1 rfl (show 0 < xn Y1 1990000 by rw [hJ2.2]; decide) (by omega) dL_law_699 ?_
      refine G_iload (pc := 700) dL_law_700 rfl ?_
      refine G_i2l (pc := 702) dL_law_702 ?_
      refine G_lcmp (pc := 703) dL_law_703 ?_
      refine G_if_eq (pc := 704) (tgt := 709) dL_law_704 (by decide) (fun c704 => ?_) (fun c704 => ?_)
      · skip
        refine G_goto (pc := 709) (tgt := 2232) dL_law_709 (by decide) ?_
        exact G_weak wk7 (next (k.1 + 12, k.2 + 100) (wM Y1 F') _ (Nat.add_le_add_left (by decide) _) (Nat.add_le_add_left (by decide) _) nx.go rfl)
      · exact absurd (lcmp_eq (show xJ Y1 1990000 0 = _ from ey (nI_z hi9 c694))) c704
  · exact absurd e25 c687
theorem LC_shoot {Γ : GTy} (hG : GS Γ) {W : WTy} {k : Nat × Nat} {n : Nat} {Z : HS} {F A : FT} {g : GN} (h : CI n Z F g A) (hF : rF Z = F) (hn : n < 512) (hL : 5 * n + 5 ≤ (gt Γ 4).2.1) (hL2 : (gt Γ 4).2.1 ≤ 2560) (k1 : k.1 ≤ 10000) (k2 : k.2 ≤ 100000) (next : LN Γ W n k) : G Γ M_L_law room_1 W k 712 [some (.ref (sid 4)), some (.ref 800000), some (.ref 900000), some (.ref 1990000), some (.int (nI (5 * n))), none, none] [] Z := by
  have hH := h.1
  have hJ := hH.2.2.2.2.2.1
  obtain ⟨b, F', hM2, hop⟩ := op_shoot hG h hn ((gt Γ 4).2.2 (5 * n + 1)) ((gt Γ 4).2.2 (5 * n + 2)) ((gt Γ 4).2.2 (5 * n + 3))
  refine G_aload_n (pc := 712) dL_law_712 rfl ?_
  refine G_aload_n (pc := 713) dL_law_713 rfl ?_
  refine G_iload (pc := 714) dL_law_714 rfl ?_
  refine G_iconst (pc := 716) (v := nI 1) dL_law_716 (by first | rfl | decide) ?_
  refine G_iaddN (pc := 717) dL_law_717 ?_
  refine G_sald (pc := 718) (i := 4) (j := _) (by decide) rfl (by first | omega | decide) (by omega) dL_law_718 ?_
  refine G_aload_n (pc := 719) dL_law_719 rfl ?_
  refine G_iload (pc := 720) dL_law_720 rfl ?_
  refine G_iconst (pc := 722) (v := nI 2) dL_law_722 (by first | rfl | decide) ?_
  refine G_iaddN (pc := 723) dL_law_723 ?_
  refine G_sald (pc := 724) (i := 4) (j := _) (by decide) rfl (by first | omega | decide) (by omega) dL_law_724 ?_
  refine G_aload_n (pc := 725) dL_law_725 rfl ?_
  refine G_iload (pc := 726) dL_law_726 rfl ?_
  refine G_iconst (pc := 728) (v := nI 3) dL_law_728 (by first | rfl | decide) ?_
  refine G_iaddN (pc := 729) dL_law_729 ?_
  refine G_sald (pc := 730) (i := 4) (j := _) (by decide) rfl (by first | omega | decide) (by omega) dL_law_730 ?_
  refine G_aload_n (pc := 731) dL_law_731 rfl ?_
  refine K_LW (pc := 732) (k' := (k.1 + 12, k.2 + 100)) (as := [.ref 800000, .int ((gt Γ 4).2.2 (5 * n + 1)), .int ((gt Γ 4).2.2 (5 * n + 2)), .int ((gt Γ 4).2.2 (5 * n + 3)), .ref 1990000]) (rest := []) mok_L_shoot lk_L_154 (rmB_le (a := 10100) (b := 100200) rfl (by omega) (by omega)) rfl rfl (aos0 rfl) dL_law_732 (W_shoot hH hop) rfl ?_
  rintro v Y1 ⟨i9, hi9, rfl, e25, nx, ey⟩
  have hS := (SH_nx nx).2.2.2.2.1
  have hJ2 := (SH_nx nx).2.2.2.2.2
  have eW : wM Y1 F = Y1 := by rw [← hF, ← nx.1]; exact wM_rF Y1
  have hm := hM2 Y1 hS
  rw [eW] at hm
  show G _ _ _ _ _ _ _ [.int (nI i9)] _
  refine G_istore (pc := 735) dL_law_735 (by decide) ?_
  refine G_aload_n (pc := 737) dL_law_737 rfl ?_
  refine G_aload_n (pc := 738) dL_law_738 rfl ?_
  refine G_iload (pc := 739) dL_law_739 rfl ?_
  refine G_iconst (pc := 741) (v := nI 1) dL_law_741 (by first | rfl | decide) ?_
  refine G_iaddN (pc := 742) dL_law_742 ?_
  refine G_sald (pc := 743) (i := 4) (j := _) (by decide) rfl (by first | omega | decide) (by omega) dL_law_743 ?_
  refine G_aload_n (pc := 744) dL_law_744 rfl ?_
  refine G_iload (pc := 745) dL_law_745 rfl ?_
  refine G_iconst (pc := 747) (v := nI 2) dL_law_747 (by first | rfl | decide) ?_
  refine G_iaddN (pc := 748) dL_law_748 ?_
  refine G_sald (pc := 749) (i := 4) (j := _) (by decide) rfl (by first | omega | decide) (by omega) dL_law_749 ?_
  refine G_aload_n (pc := 750) dL_law_750 rfl ?_
  refine G_iload (pc := 751) dL_law_751 rfl ?_
  refine G_iconst (pc := 753) (v := nI 3) dL_law_753 (by first | rfl | decide) ?_
  refine G_iaddN (pc := 754) dL_law_754 ?_
  refine G_sald (pc := 755) (i := 4) (j := _) (by decide) rfl (by first | omega | decide) (by omega) dL_law_755 ?_
  refine K_Vn3r (pc := 756) (k' := (k.1 + 12, k.2 + 100)) mok_X10_shoot lk_L_157 hS.1 rfl rfl (rmB_le (a := 10100) (b := 100200) rfl (show k.1 + 12 ≤ _ by omega) (show k.2 + 100 ≤ _ by omega)) (aok0 rfl) dL_law_756 hm rfl ?_
  refine G_istore (pc := 759) dL_law_759 (by decide) ?_
  refine G_aload_n (pc := 761) dL_law_761 rfl ?_
  refine K_Vn0r (pc := 762) (k' := (k.1 + 12, k.2 + 100)) mok_X10_thrown lk_L_127 hS.1 rfl rfl (rmB_le (a := 10100) (b := 100200) rfl (show k.1 + 12 ≤ _ by omega) (show k.2 + 100 ≤ _ by omega)) (aok0 rfl) dL_law_762 (C_thrown hS F') rfl ?_
  refine G_iload (pc := 765) dL_law_765 rfl ?_
  refine G_icmp_eq (pc := 767) (tgt := 772) dL_law_767 (by decide) (fun c767 => ?_) (fun c767 => ?_)
  · skip
    refine G_iload (pc := 772) dL_law_772 rfl ?_
    refine G_if_ne (pc := 774) (tgt := 789) dL_law_774 (by decide) (fun c774 => ?_) (fun c774 => ?_)
    · skip
      refine G_goto (pc := 789) (tgt := 2232) dL_law_789 (by decide) ?_
      exact G_weak wk7 (next (k.1 + 12, k.2 + 100) (wM Y1 F') _ (Nat.add_le_add_left (by decide) _) (Nat.add_le_add_left (by decide) _) nx.go rfl)
    · skip
      refine G_aload_n (pc := 777) dL_law_777 rfl ?_
      refine G_iconst (pc := 778) (v := nI 0) dL_law_778 (by first | rfl | decide) ?_
      refine G_lald (pc := 779) (j := 0) hJ2.1 rfl (show 0 < xn Y1 1990000 by rw [hJ2.2]; decide) (by omega) dL_law_779 ?_
      refine G_iload (pc := 780) dL_law_780 rfl ?_
      refine G_i2l (pc := 782) dL_law_782 ?_
      refine G_lcmp (pc := 783) dL_law_783 ?_
      refine G_if_eq (pc := 784) (tgt := 789) dL_law_784 (by decide) (fun c784 => ?_) (fun c784 => ?_)
      · skip
        refine G_goto (pc := 789) (tgt := 2232) dL_law_789 (by decide) ?_
        exact G_weak wk7 (next (k.1 + 12, k.2 + 100) (wM Y1 F') _ (Nat.add_le_add_left (by decide) _) (Nat.add_le_add_left (by decide) _) nx.go rfl)
      · exact absurd (lcmp_eq (show xJ Y1 1990000 0 = _ from ey (nI_z hi9 c774))) c784
  · exact absurd e25 c767
theorem LC_lend {Γ : GTy} (hG : GS Γ) {W : WTy} {k : Nat × Nat} {n : Nat} {Z : HS} {F A : FT} {g : GN} (h : CI n Z F g A) (hF : rF Z = F) (hn : n < 512) (hL : 5 * n + 5 ≤ (gt Γ 4).2.1) (hL2 : (gt Γ 4).2.1 ≤ 2560) (k1 : k.1 ≤ 10000) (k2 : k.2 ≤ 100000) (next : LN Γ W n k) : G Γ M_L_law room_1 W k 792 [some (.ref (sid 4)), some (.ref 800000), some (.ref 900000), some (.ref 1990000), some (.int (nI (5 * n))), none, none] [] Z := by
  have hH := h.1
  have hJ := hH.2.2.2.2.2.1
  obtain ⟨b, F', hM2, hop⟩ := op_lend hG h hn ((gt Γ 4).2.2 (5 * n + 1)) ((gt Γ 4).2.2 (5 * n + 2))
  refine G_aload_n (pc := 792) dL_law_792 rfl ?_
  refine G_aload_n (pc := 793) dL_law_793 rfl ?_
  refine G_iload (pc := 794) dL_law_794 rfl ?_
  refine G_iconst (pc := 796) (v := nI 1) dL_law_796 (by first | rfl | decide) ?_
  refine G_iaddN (pc := 797) dL_law_797 ?_
  refine G_sald (pc := 798) (i := 4) (j := _) (by decide) rfl (by first | omega | decide) (by omega) dL_law_798 ?_
  refine G_aload_n (pc := 799) dL_law_799 rfl ?_
  refine G_iload (pc := 800) dL_law_800 rfl ?_
  refine G_iconst (pc := 802) (v := nI 2) dL_law_802 (by first | rfl | decide) ?_
  refine G_iaddN (pc := 803) dL_law_803 ?_
  refine G_sald (pc := 804) (i := 4) (j := _) (by decide) rfl (by first | omega | decide) (by omega) dL_law_804 ?_
  refine G_aload_n (pc := 805) dL_law_805 rfl ?_
  refine K_LW (pc := 806) (k' := (k.1 + 12, k.2 + 100)) (as := [.ref 800000, .int ((gt Γ 4).2.2 (5 * n + 1)), .int ((gt Γ 4).2.2 (5 * n + 2)), .ref 1990000]) (rest := []) mok_L_lend lk_L_158 (rmB_le (a := 10100) (b := 100200) rfl (by omega) (by omega)) rfl rfl (fun _ => ⟨rfl, fun r hr => aosH hH r hr, fun r hr => nomatch hr⟩) dL_law_806 (W_lend hH hop) rfl ?_
  rintro v Y1 ⟨i9, hi9, rfl, e25, nx, ey⟩
  have hS := (SH_nx nx).2.2.2.2.1
  have hJ2 := (SH_nx nx).2.2.2.2.2
  have eW : wM Y1 F = Y1 := by rw [← hF, ← nx.1]; exact wM_rF Y1
  have hm := hM2 Y1 hS
  rw [eW] at hm
  show G _ _ _ _ _ _ _ [.int (nI i9)] _
  refine G_istore (pc := 809) dL_law_809 (by decide) ?_
  refine G_aload_n (pc := 811) dL_law_811 rfl ?_
  refine G_aload_n (pc := 812) dL_law_812 rfl ?_
  refine G_iload (pc := 813) dL_law_813 rfl ?_
  refine G_iconst (pc := 815) (v := nI 1) dL_law_815 (by first | rfl | decide) ?_
  refine G_iaddN (pc := 816) dL_law_816 ?_
  refine G_sald (pc := 817) (i := 4) (j := _) (by decide) rfl (by first | omega | decide) (by omega) dL_law_817 ?_
  refine G_aload_n (pc := 818) dL_law_818 rfl ?_
  refine G_iload (pc := 819) dL_law_819 rfl ?_
  refine G_iconst (pc := 821) (v := nI 2) dL_law_821 (by first | rfl | decide) ?_
  refine G_iaddN (pc := 822) dL_law_822 ?_
  refine G_sald (pc := 823) (i := 4) (j := _) (by decide) rfl (by first | omega | decide) (by omega) dL_law_823 ?_
  refine K_Vn2r (pc := 824) (k' := (k.1 + 12, k.2 + 100)) mok_X10_lend lk_L_160 hS.1 rfl rfl (rmB_le (a := 10100) (b := 100200) rfl (show k.1 + 12 ≤ _ by omega) (show k.2 + 100 ≤ _ by omega)) (aok0 rfl) dL_law_824 hm rfl ?_
  refine G_istore (pc := 827) dL_law_827 (by decide) ?_
  refine G_aload_n (pc := 829) dL_law_829 rfl ?_
  refine K_Vn0r (pc := 830) (k' := (k.1 + 12, k.2 + 100)) mok_X10_thrown lk_L_127 hS.1 rfl rfl (rmB_le (a := 10100) (b := 100200) rfl (show k.1 + 12 ≤ _ by omega) (show k.2 + 100 ≤ _ by omega)) (aok0 rfl) dL_law_830 (C_thrown hS F') rfl ?_
  refine G_iload (pc := 833) dL_law_833 rfl ?_
  refine G_icmp_eq (pc := 835) (tgt := 840) dL_law_835 (by decide) (fun c835 => ?_) (fun c835 => ?_)
  · skip
    refine G_iload (pc := 840) dL_law_840 rfl ?_
    refine G_if_ne (pc := 842) (tgt := 857) dL_law_842 (by decide) (fun c842 => ?_) (fun c842 => ?_)
    · skip
      refine G_goto (pc := 857) (tgt := 2232) dL_law_857 (by decide) ?_
      exact G_weak wk7 (next (k.1 + 12, k.2 + 100) (wM Y1 F') _ (Nat.add_le_add_left (by decide) _) (Nat.add_le_add_left (by decide) _) nx.go rfl)
    · skip
      refine G_aload_n (pc := 845) dL_law_845 rfl ?_
      refine G_iconst (pc := 846) (v := nI 0) dL_law_846 (by first | rfl | decide) ?_
      refine G_lald (pc := 847) (j := 0) hJ2.1 rfl (show 0 < xn Y1 1990000 by rw [hJ2.2]; decide) (by omega) dL_law_847 ?_
      refine G_iload (pc := 848) dL_law_848 rfl ?_
      refine G_i2l (pc := 850) dL_law_850 ?_
      refine G_lcmp (pc := 851) dL_law_851 ?_
      refine G_if_eq (pc := 852) (tgt := 857) dL_law_852 (by decide) (fun c852 => ?_) (fun c852 => ?_)
      · skip
        refine G_goto (pc := 857) (tgt := 2232) dL_law_857 (by decide) ?_
        exact G_weak wk7 (next (k.1 + 12, k.2 + 100) (wM Y1 F') _ (Nat.add_le_add_left (by decide) _) (Nat.add_le_add_left (by decide) _) nx.go rfl)
      · exact absurd (lcmp_eq (show xJ Y1 1990000 0 = _ from ey (nI_z hi9 c842))) c852
  · exact absurd e25 c835
theorem LC_takeBack {Γ : GTy} (hG : GS Γ) {W : WTy} {k : Nat × Nat} {n : Nat} {Z : HS} {F A : FT} {g : GN} (h : CI n Z F g A) (hF : rF Z = F) (hn : n < 512) (hL : 5 * n + 5 ≤ (gt Γ 4).2.1) (hL2 : (gt Γ 4).2.1 ≤ 2560) (k1 : k.1 ≤ 10000) (k2 : k.2 ≤ 100000) (next : LN Γ W n k) : G Γ M_L_law room_1 W k 860 [some (.ref (sid 4)), some (.ref 800000), some (.ref 900000), some (.ref 1990000), some (.int (nI (5 * n))), none, none] [] Z := by
  have hH := h.1
  have hJ := hH.2.2.2.2.2.1
  obtain ⟨b, F', hM2, hop⟩ := op_takeBack hG h hn ((gt Γ 4).2.2 (5 * n + 1))
  refine G_aload_n (pc := 860) dL_law_860 rfl ?_
  refine G_aload_n (pc := 861) dL_law_861 rfl ?_
  refine G_iload (pc := 862) dL_law_862 rfl ?_
  refine G_iconst (pc := 864) (v := nI 1) dL_law_864 (by first | rfl | decide) ?_
  refine G_iaddN (pc := 865) dL_law_865 ?_
  refine G_sald (pc := 866) (i := 4) (j := _) (by decide) rfl (by first | omega | decide) (by omega) dL_law_866 ?_
  refine G_aload_n (pc := 867) dL_law_867 rfl ?_
  refine K_LW (pc := 868) (k' := (k.1 + 12, k.2 + 100)) (as := [.ref 800000, .int ((gt Γ 4).2.2 (5 * n + 1)), .ref 1990000]) (rest := []) mok_L_takeBack lk_L_161 (rmB_le (a := 10100) (b := 100200) rfl (by omega) (by omega)) rfl rfl (aos0 rfl) dL_law_868 (W_takeBack hH hop) rfl ?_
  rintro v Y1 ⟨i9, hi9, rfl, e25, nx, ey⟩
  have hS := (SH_nx nx).2.2.2.2.1
  have hJ2 := (SH_nx nx).2.2.2.2.2
  have eW : wM Y1 F = Y1 := by rw [← hF, ← nx.1]; exact wM_rF Y1
  have hm := hM2 Y1 hS
  rw [eW] at hm
  show G _ _ _ _ _ _ _ [.int (nI i9)] _
  refine G_istore (pc := 871) dL_law_871 (by decide) ?_
  refine G_aload_n (pc := 873) dL_law_873 rfl ?_
  refine G_aload_n (pc := 874) dL_law_874 rfl ?_
  refine G_iload (pc := 875) dL_law_875 rfl ?_
  refine G_iconst (pc := 877) (v := nI 1) dL_law_877 (by first | rfl | decide) ?_
  refine G_iaddN (pc := 878) dL_law_878 ?_
  refine G_sald (pc := 879) (i := 4) (j := _) (by decide) rfl (by first | omega | decide) (by omega) dL_law_879 ?_
  refine K_Vn1r (pc := 880) (k' := (k.1 + 12, k.2 + 100)) mok_X10_takeBack lk_L_163 hS.1 rfl rfl (rmB_le (a := 10100) (b := 100200) rfl (show k.1 + 12 ≤ _ by omega) (show k.2 + 100 ≤ _ by omega)) (aok0 rfl) dL_law_880 hm rfl ?_
  refine G_istore (pc := 883) dL_law_883 (by decide) ?_
  refine G_aload_n (pc := 885) dL_law_885 rfl ?_
  refine K_Vn0r (pc := 886) (k' := (k.1 + 12, k.2 + 100)) mok_X10_thrown lk_L_127 hS.1 rfl rfl (rmB_le (a := 10100) (b := 100200) rfl (show k.1 + 12 ≤ _ by omega) (show k.2 + 100 ≤ _ by omega)) (aok0 rfl) dL_law_886 (C_thrown hS F') rfl ?_
  refine G_iload (pc := 889) dL_law_889 rfl ?_
  refine G_icmp_eq (pc := 891) (tgt := 896) dL_law_891 (by decide) (fun c891 => ?_) (fun c891 => ?_)
  · skip
    refine G_iload (pc := 896) dL_law_896 rfl ?_
    refine G_if_ne (pc := 898) (tgt := 913) dL_law_898 (by decide) (fun c898 => ?_) (fun c898 => ?_)
    · skip
      refine G_goto (pc := 913) (tgt := 2232) dL_law_913 (by decide) ?_
      exact G_weak wk7 (next (k.1 + 12, k.2 + 100) (wM Y1 F') _ (Nat.add_le_add_left (by decide) _) (Nat.add_le_add_left (by decide) _) nx.go rfl)
    · skip
      refine G_aload_n (pc := 901) dL_law_901 rfl ?_
      refine G_iconst (pc := 902) (v := nI 0) dL_law_902 (by first | rfl | decide) ?_
      refine G_lald (pc := 903) (j := 0) hJ2.1 rfl (show 0 < xn Y1 1990000 by rw [hJ2.2]; decide) (by omega) dL_law_903 ?_
      refine G_iload (pc := 904) dL_law_904 rfl ?_
      refine G_i2l (pc := 906) dL_law_906 ?_
      refine G_lcmp (pc := 907) dL_law_907 ?_
      refine G_if_eq (pc := 908) (tgt := 913) dL_law_908 (by decide) (fun c908 => ?_) (fun c908 => ?_)
      · skip
        refine G_goto (pc := 913) (tgt := 2232) dL_law_913 (by decide) ?_
        exact G_weak wk7 (next (k.1 + 12, k.2 + 100) (wM Y1 F') _ (Nat.add_le_add_left (by decide) _) (Nat.add_le_add_left (by decide) _) nx.go rfl)
      · exact absurd (lcmp_eq (show xJ Y1 1990000 0 = _ from ey (nI_z hi9 c898))) c908
  · exact absurd e25 c891
theorem LC_tip {Γ : GTy} (hG : GS Γ) {W : WTy} {k : Nat × Nat} {n : Nat} {Z : HS} {F A : FT} {g : GN} (h : CI n Z F g A) (hF : rF Z = F) (hn : n < 512) (hL : 5 * n + 5 ≤ (gt Γ 4).2.1) (hL2 : (gt Γ 4).2.1 ≤ 2560) (k1 : k.1 ≤ 10000) (k2 : k.2 ≤ 100000) (next : LN Γ W n k) : G Γ M_L_law room_1 W k 916 [some (.ref (sid 4)), some (.ref 800000), some (.ref 900000), some (.ref 1990000), some (.int (nI (5 * n))), none, none] [] Z := by
  have hH := h.1
  have hJ := hH.2.2.2.2.2.1
  obtain ⟨b, F', hM2, hop⟩ := op_tip hG h hn ((gt Γ 4).2.2 (5 * n + 1))
  refine G_aload_n (pc := 916) dL_law_916 rfl ?_
  refine G_aload_n (pc := 917) dL_law_917 rfl ?_
  refine G_iload (pc := 918) dL_law_918 rfl ?_
  refine G_iconst (pc := 920) (v := nI 1) dL_law_920 (by first | rfl | decide) ?_
  refine G_iaddN (pc := 921) dL_law_921 ?_
  refine G_sald (pc := 922) (i := 4) (j := _) (by decide) rfl (by first | omega | decide) (by omega) dL_law_922 ?_
  refine G_aload_n (pc := 923) dL_law_923 rfl ?_
  refine K_LW (pc := 924) (k' := (k.1 + 12, k.2 + 100)) (as := [.ref 800000, .int ((gt Γ 4).2.2 (5 * n + 1)), .ref 1990000]) (rest := []) mok_L_tip lk_L_164 (rmB_le (a := 10100) (b := 100200) rfl (by omega) (by omega)) rfl rfl (aos0 rfl) dL_law_924 (W_tip hH hop) rfl ?_
  rintro v Y1 ⟨i9, hi9, rfl, e25, nx, ey⟩
  have hS := (SH_nx nx).2.2.2.2.1
  have hJ2 := (SH_nx nx).2.2.2.2.2
  have eW : wM Y1 F = Y1 := by rw [← hF, ← nx.1]; exact wM_rF Y1
  have hm := hM2 Y1 hS
  rw [eW] at hm
  show G _ _ _ _ _ _ _ [.int (nI i9)] _
  refine G_istore (pc := 927) dL_law_927 (by decide) ?_
  refine G_aload_n (pc := 929) dL_law_929 rfl ?_
  refine G_aload_n (pc := 930) dL_law_930 rfl ?_
  refine G_iload (pc := 931) dL_law_931 rfl ?_
  refine G_iconst (pc := 933) (v := nI 1) dL_law_933 (by first | rfl | decide) ?_
  refine G_iaddN (pc := 934) dL_law_934 ?_
  refine G_sald (pc := 935) (i := 4) (j := _) (by decide) rfl (by first | omega | decide) (by omega) dL_law_935 ?_
  refine K_Vn1r (pc := 936) (k' := (k.1 + 12, k.2 + 100)) mok_X10_tip lk_L_166 hS.1 rfl rfl (rmB_le (a := 10100) (b := 100200) rfl (show k.1 + 12 ≤ _ by omega) (show k.2 + 100 ≤ _ by omega)) (aok0 rfl) dL_law_936 hm rfl ?_
  refine G_istore (pc := 939) dL_law_939 (by decide) ?_
  refine G_aload_n (pc := 941) dL_law_941 rfl ?_
  refine K_Vn0r (pc := 942) (k' := (k.1 + 12, k.2 + 100)) mok_X10_thrown lk_L_127 hS.1 rfl rfl (rmB_le (a := 10100) (b := 100200) rfl (show k.1 + 12 ≤ _ by omega) (show k.2 + 100 ≤ _ by omega)) (aok0 rfl) dL_law_942 (C_thrown hS F') rfl ?_
  refine G_iload (pc := 945) dL_law_945 rfl ?_
  refine G_icmp_eq (pc := 947) (tgt := 952) dL_law_947 (by decide) (fun c947 => ?_) (fun c947 => ?_)
  · skip
    refine G_iload (pc := 952) dL_law_952 rfl ?_
    refine G_if_ne (pc := 954) (tgt := 969) dL_law_954 (by decide) (fun c954 => ?_) (fun c954 => ?_)
    · skip
      refine G_goto (pc := 969) (tgt := 2232) dL_law_969 (by decide) ?_
      exact G_weak wk7 (next (k.1 + 12, k.2 + 100) (wM Y1 F') _ (Nat.add_le_add_left (by decide) _) (Nat.add_le_add_left (by decide) _) nx.go rfl)
    · skip
      refine G_aload_n (pc := 957) dL_law_957 rfl ?_
      refine G_iconst (pc := 958) (v := nI 0) dL_law_958 (by first | rfl | decide) ?_
      refine G_lald (pc := 959) (j := 0) hJ2.1 rfl (show 0 < xn Y1 1990000 by rw [hJ2.2]; decide) (by omega) dL_law_959 ?_
      refine G_iload (pc := 960) dL_law_960 rfl ?_
      refine G_i2l (pc := 962) dL_law_962 ?_
      refine G_lcmp (pc := 963) dL_law_963 ?_
      refine G_if_eq (pc := 964) (tgt := 969) dL_law_964 (by decide) (fun c964 => ?_) (fun c964 => ?_)
      · skip
        refine G_goto (pc := 969) (tgt := 2232) dL_law_969 (by decide) ?_
        exact G_weak wk7 (next (k.1 + 12, k.2 + 100) (wM Y1 F') _ (Nat.add_le_add_left (by decide) _) (Nat.add_le_add_left (by decide) _) nx.go rfl)
      · exact absurd (lcmp_eq (show xJ Y1 1990000 0 = _ from ey (nI_z hi9 c954))) c964
  · exact absurd e25 c947
theorem LC_minute {Γ : GTy} (hG : GS Γ) {W : WTy} {k : Nat × Nat} {n : Nat} {Z : HS} {F A : FT} {g : GN} (h : CI n Z F g A) (hF : rF Z = F) (hn : n < 512) (hL : 5 * n + 5 ≤ (gt Γ 4).2.1) (hL2 : (gt Γ 4).2.1 ≤ 2560) (k1 : k.1 ≤ 10000) (k2 : k.2 ≤ 100000) (next : LN Γ W n k) : G Γ M_L_law room_1 W k 972 [some (.ref (sid 4)), some (.ref 800000), some (.ref 900000), some (.ref 1990000), some (.int (nI (5 * n))), none, none] [] Z := by
  have hH := h.1
  have hS := hH.2.2.2.2.1
  have hJ := hH.2.2.2.2.2.1
  obtain ⟨b, F', hM2, nx, hop⟩ := op_minute h hn
  have eW : wM Z F = Z := by rw [← hF]; exact wM_rF Z
  have hm := hM2 Z hS
  rw [eW] at hm
  refine G_aload_n (pc := 972) dL_law_972 rfl ?_
  refine K_Vn0r (pc := 973) (k' := k) mok_X9_minute lk_L_167 (sh_k hH) rfl rfl (rmB_le (a := 10100) (b := 100200) rfl (by omega) (by omega)) (aok0 rfl) dL_law_973 hop rfl ?_
  refine G_aload_n (pc := 976) dL_law_976 rfl ?_
  refine K_Vn0r (pc := 977) (k' := k) mok_X10_minute lk_L_170 hS.1 rfl rfl (rmB_le (a := 10100) (b := 100200) rfl (by omega) (by omega)) (aok0 rfl) dL_law_977 hm rfl ?_
  refine G_icmp_eq (pc := 980) (tgt := 2232) dL_law_980 (by decide) (fun c980 => ?_) (fun c980 => ?_)
  · exact next k (wM Z F') _ (Nat.le_add_right _ _) (Nat.le_add_right _ _) nx.go rfl
  · exact absurd rfl c980
theorem LC_isOpen {Γ : GTy} (hG : GS Γ) {W : WTy} {k : Nat × Nat} {n : Nat} {Z : HS} {F A : FT} {g : GN} (h : CI n Z F g A) (hF : rF Z = F) (hn : n < 512) (hL : 5 * n + 5 ≤ (gt Γ 4).2.1) (hL2 : (gt Γ 4).2.1 ≤ 2560) (k1 : k.1 ≤ 10000) (k2 : k.2 ≤ 100000) (next : LN Γ W n k) : G Γ M_L_law room_1 W k 985 [some (.ref (sid 4)), some (.ref 800000), some (.ref 900000), some (.ref 1990000), some (.int (nI (5 * n))), none, none] [] Z := by
  have hH := h.1
  have hJ := hH.2.2.2.2.2.1
  obtain ⟨b, F', hM2, hop⟩ := op_isOpen hG h hn ((gt Γ 4).2.2 (5 * n + 1))
  refine G_aload_n (pc := 985) dL_law_985 rfl ?_
  refine G_aload_n (pc := 986) dL_law_986 rfl ?_
  refine G_iload (pc := 987) dL_law_987 rfl ?_
  refine G_iconst (pc := 989) (v := nI 1) dL_law_989 (by first | rfl | decide) ?_
  refine G_iaddN (pc := 990) dL_law_990 ?_
  refine G_sald (pc := 991) (i := 4) (j := _) (by decide) rfl (by first | omega | decide) (by omega) dL_law_991 ?_
  refine G_aload_n (pc := 992) dL_law_992 rfl ?_
  refine K_LW (pc := 993) (k' := (k.1 + 12, k.2 + 100)) (as := [.ref 800000, .int ((gt Γ 4).2.2 (5 * n + 1)), .ref 1990000]) (rest := []) mok_L_isOpen lk_L_171 (rmB_le (a := 10100) (b := 100200) rfl (by omega) (by omega)) rfl rfl (aos0 rfl) dL_law_993 (W_isOpen hH hop) rfl ?_
  rintro v Y1 ⟨i9, hi9, rfl, e25, nx, ey⟩
  have hS := (SH_nx nx).2.2.2.2.1
  have hJ2 := (SH_nx nx).2.2.2.2.2
  have eW : wM Y1 F = Y1 := by rw [← hF, ← nx.1]; exact wM_rF Y1
  have hm := hM2 Y1 hS
  rw [eW] at hm
  show G _ _ _ _ _ _ _ [.int (nI i9)] _
  refine G_istore (pc := 996) dL_law_996 (by decide) ?_
  refine G_aload_n (pc := 998) dL_law_998 rfl ?_
  refine G_aload_n (pc := 999) dL_law_999 rfl ?_
  refine G_iload (pc := 1000) dL_law_1000 rfl ?_
  refine G_iconst (pc := 1002) (v := nI 1) dL_law_1002 (by first | rfl | decide) ?_
  refine G_iaddN (pc := 1003) dL_law_1003 ?_
  refine G_sald (pc := 1004) (i := 4) (j := _) (by decide) rfl (by first | omega | decide) (by omega) dL_law_1004 ?_
  refine K_Vn1r (pc := 1005) (k' := (k.1 + 12, k.2 + 100)) mok_X10_isOpen lk_L_173 hS.1 rfl rfl (rmB_le (a := 10100) (b := 100200) rfl (show k.1 + 12 ≤ _ by omega) (show k.2 + 100 ≤ _ by omega)) (aok0 rfl) dL_law_1005 hm rfl ?_
  refine G_istore (pc := 1008) dL_law_1008 (by decide) ?_
  refine G_aload_n (pc := 1010) dL_law_1010 rfl ?_
  refine K_Vn0r (pc := 1011) (k' := (k.1 + 12, k.2 + 100)) mok_X10_thrown lk_L_127 hS.1 rfl rfl (rmB_le (a := 10100) (b := 100200) rfl (show k.1 + 12 ≤ _ by omega) (show k.2 + 100 ≤ _ by omega)) (aok0 rfl) dL_law_1011 (C_thrown hS F') rfl ?_
  refine G_iload (pc := 1014) dL_law_1014 rfl ?_
  refine G_icmp_eq (pc := 1016) (tgt := 1021) dL_law_1016 (by decide) (fun c1016 => ?_) (fun c1016 => ?_)
  · skip
    refine G_iload (pc := 1021) dL_law_1021 rfl ?_
    refine G_if_ne (pc := 1023) (tgt := 1045) dL_law_1023 (by decide) (fun c1023 => ?_) (fun c1023 => ?_)
    · skip
      refine G_goto (pc := 1045) (tgt := 2232) dL_law_1045 (by decide) ?_
      exact G_weak wk7 (next (k.1 + 12, k.2 + 100) (wM Y1 F') _ (Nat.add_le_add_left (by decide) _) (Nat.add_le_add_left (by decide) _) nx.go rfl)
    · skip
      refine G_aload_n (pc := 1026) dL_law_1026 rfl ?_
      refine G_iconst (pc := 1027) (v := nI 0) dL_law_1027 (by first | rfl | decide) ?_
      refine G_lald (pc := 1028) (j := 0) hJ2.1 rfl (show 0 < xn Y1 1990000 by rw [hJ2.2]; decide) (by omega) dL_law_1028 ?_
      refine G_iload (pc := 1029) dL_law_1029 rfl ?_
      refine G_if_eq (pc := 1031) (tgt := 1038) dL_law_1031 (by decide) (fun c1031 => ?_) (fun c1031 => ?_)
      · skip
        have ez : (if b = 0 then (0 : Int64) else 1) = 0 := if_pos c1031
        refine G_lconst (pc := 1038) (v := 0) dL_law_1038 (by first | rfl | decide) ?_
        refine G_lcmp (pc := 1039) dL_law_1039 ?_
        refine G_if_eq (pc := 1040) (tgt := 1045) dL_law_1040 (by decide) (fun c1040 => ?_) (fun c1040 => ?_)
        · skip
          refine G_goto (pc := 1045) (tgt := 2232) dL_law_1045 (by decide) ?_
          exact G_weak wk7 (next (k.1 + 12, k.2 + 100) (wM Y1 F') _ (Nat.add_le_add_left (by decide) _) (Nat.add_le_add_left (by decide) _) nx.go rfl)
        · exact absurd (lcmp_eq (show xJ Y1 1990000 0 = _ from (ey (nI_z hi9 c1023)).trans ez)) c1040
      · skip
        have ez : (if b = 0 then (0 : Int64) else 1) = 1 := if_neg c1031
        refine G_lconst (pc := 1034) (v := 1) dL_law_1034 (by first | rfl | decide) ?_
        refine G_goto (pc := 1035) (tgt := 1039) dL_law_1035 (by decide) ?_
        refine G_lcmp (pc := 1039) dL_law_1039 ?_
        refine G_if_eq (pc := 1040) (tgt := 1045) dL_law_1040 (by decide) (fun c1040 => ?_) (fun c1040 => ?_)
        · skip
          refine G_goto (pc := 1045) (tgt := 2232) dL_law_1045 (by decide) ?_
          exact G_weak wk7 (next (k.1 + 12, k.2 + 100) (wM Y1 F') _ (Nat.add_le_add_left (by decide) _) (Nat.add_le_add_left (by decide) _) nx.go rfl)
        · exact absurd (lcmp_eq (show xJ Y1 1990000 0 = _ from (ey (nI_z hi9 c1023)).trans ez)) c1040
  · exact absurd e25 c1016
theorem LC_renter {Γ : GTy} (hG : GS Γ) {W : WTy} {k : Nat × Nat} {n : Nat} {Z : HS} {F A : FT} {g : GN} (h : CI n Z F g A) (hF : rF Z = F) (hn : n < 512) (hL : 5 * n + 5 ≤ (gt Γ 4).2.1) (hL2 : (gt Γ 4).2.1 ≤ 2560) (k1 : k.1 ≤ 10000) (k2 : k.2 ≤ 100000) (next : LN Γ W n k) : G Γ M_L_law room_1 W k 1048 [some (.ref (sid 4)), some (.ref 800000), some (.ref 900000), some (.ref 1990000), some (.int (nI (5 * n))), none, none] [] Z := by
  have hH := h.1
  have hJ := hH.2.2.2.2.2.1
  obtain ⟨b, F', hM2, hop⟩ := op_renter hG h hn ((gt Γ 4).2.2 (5 * n + 1))
  refine G_aload_n (pc := 1048) dL_law_1048 rfl ?_
  refine G_aload_n (pc := 1049) dL_law_1049 rfl ?_
  refine G_iload (pc := 1050) dL_law_1050 rfl ?_
  refine G_iconst (pc := 1052) (v := nI 1) dL_law_1052 (by first | rfl | decide) ?_
  refine G_iaddN (pc := 1053) dL_law_1053 ?_
  refine G_sald (pc := 1054) (i := 4) (j := _) (by decide) rfl (by first | omega | decide) (by omega) dL_law_1054 ?_
  refine G_aload_n (pc := 1055) dL_law_1055 rfl ?_
  refine K_LW (pc := 1056) (k' := (k.1 + 12, k.2 + 100)) (as := [.ref 800000, .int ((gt Γ 4).2.2 (5 * n + 1)), .ref 1990000]) (rest := []) mok_L_renter lk_L_174 (rmB_le (a := 10100) (b := 100200) rfl (by omega) (by omega)) rfl rfl (aos0 rfl) dL_law_1056 (W_renter hH hop) rfl ?_
  rintro v Y1 ⟨i9, hi9, rfl, e25, nx, ey⟩
  have hS := (SH_nx nx).2.2.2.2.1
  have hJ2 := (SH_nx nx).2.2.2.2.2
  have eW : wM Y1 F = Y1 := by rw [← hF, ← nx.1]; exact wM_rF Y1
  have hm := hM2 Y1 hS
  rw [eW] at hm
  show G _ _ _ _ _ _ _ [.int (nI i9)] _
  refine G_istore (pc := 1059) dL_law_1059 (by decide) ?_
  refine G_aload_n (pc := 1061) dL_law_1061 rfl ?_
  refine G_aload_n (pc := 1062) dL_law_1062 rfl ?_
  refine G_iload (pc := 1063) dL_law_1063 rfl ?_
  refine G_iconst (pc := 1065) (v := nI 1) dL_law_1065 (by first | rfl | decide) ?_
  refine G_iaddN (pc := 1066) dL_law_1066 ?_
  refine G_sald (pc := 1067) (i := 4) (j := _) (by decide) rfl (by first | omega | decide) (by omega) dL_law_1067 ?_
  refine K_Vn1r (pc := 1068) (k' := (k.1 + 12, k.2 + 100)) mok_X10_renter lk_L_176 hS.1 rfl rfl (rmB_le (a := 10100) (b := 100200) rfl (show k.1 + 12 ≤ _ by omega) (show k.2 + 100 ≤ _ by omega)) (aok0 rfl) dL_law_1068 hm rfl ?_
  refine G_istore (pc := 1071) dL_law_1071 (by decide) ?_
  refine G_aload_n (pc := 1073) dL_law_1073 rfl ?_
  refine K_Vn0r (pc := 1074) (k' := (k.1 + 12, k.2 + 100)) mok_X10_thrown lk_L_127 hS.1 rfl rfl (rmB_le (a := 10100) (b := 100200) rfl (show k.1 + 12 ≤ _ by omega) (show k.2 + 100 ≤ _ by omega)) (aok0 rfl) dL_law_1074 (C_thrown hS F') rfl ?_
  refine G_iload (pc := 1077) dL_law_1077 rfl ?_
  refine G_icmp_eq (pc := 1079) (tgt := 1084) dL_law_1079 (by decide) (fun c1079 => ?_) (fun c1079 => ?_)
  · skip
    refine G_iload (pc := 1084) dL_law_1084 rfl ?_
    refine G_if_ne (pc := 1086) (tgt := 1101) dL_law_1086 (by decide) (fun c1086 => ?_) (fun c1086 => ?_)
    · skip
      refine G_goto (pc := 1101) (tgt := 2232) dL_law_1101 (by decide) ?_
      exact G_weak wk7 (next (k.1 + 12, k.2 + 100) (wM Y1 F') _ (Nat.add_le_add_left (by decide) _) (Nat.add_le_add_left (by decide) _) nx.go rfl)
    · skip
      refine G_aload_n (pc := 1089) dL_law_1089 rfl ?_
      refine G_iconst (pc := 1090) (v := nI 0) dL_law_1090 (by first | rfl | decide) ?_
      refine G_lald (pc := 1091) (j := 0) hJ2.1 rfl (show 0 < xn Y1 1990000 by rw [hJ2.2]; decide) (by omega) dL_law_1091 ?_
      refine G_iload (pc := 1092) dL_law_1092 rfl ?_
      refine G_i2l (pc := 1094) dL_law_1094 ?_
      refine G_lcmp (pc := 1095) dL_law_1095 ?_
      refine G_if_eq (pc := 1096) (tgt := 1101) dL_law_1096 (by decide) (fun c1096 => ?_) (fun c1096 => ?_)
      · skip
        refine G_goto (pc := 1101) (tgt := 2232) dL_law_1101 (by decide) ?_
        exact G_weak wk7 (next (k.1 + 12, k.2 + 100) (wM Y1 F') _ (Nat.add_le_add_left (by decide) _) (Nat.add_le_add_left (by decide) _) nx.go rfl)
      · exact absurd (lcmp_eq (show xJ Y1 1990000 0 = _ from ey (nI_z hi9 c1086))) c1096
  · exact absurd e25 c1079
theorem LC_clock {Γ : GTy} (hG : GS Γ) {W : WTy} {k : Nat × Nat} {n : Nat} {Z : HS} {F A : FT} {g : GN} (h : CI n Z F g A) (hF : rF Z = F) (hn : n < 512) (hL : 5 * n + 5 ≤ (gt Γ 4).2.1) (hL2 : (gt Γ 4).2.1 ≤ 2560) (k1 : k.1 ≤ 10000) (k2 : k.2 ≤ 100000) (next : LN Γ W n k) : G Γ M_L_law room_1 W k 1104 [some (.ref (sid 4)), some (.ref 800000), some (.ref 900000), some (.ref 1990000), some (.int (nI (5 * n))), none, none] [] Z := by
  have hH := h.1
  have hJ := hH.2.2.2.2.2.1
  obtain ⟨b, F', hM2, hop⟩ := op_clock hG h hn ((gt Γ 4).2.2 (5 * n + 1))
  refine G_aload_n (pc := 1104) dL_law_1104 rfl ?_
  refine G_aload_n (pc := 1105) dL_law_1105 rfl ?_
  refine G_iload (pc := 1106) dL_law_1106 rfl ?_
  refine G_iconst (pc := 1108) (v := nI 1) dL_law_1108 (by first | rfl | decide) ?_
  refine G_iaddN (pc := 1109) dL_law_1109 ?_
  refine G_sald (pc := 1110) (i := 4) (j := _) (by decide) rfl (by first | omega | decide) (by omega) dL_law_1110 ?_
  refine G_aload_n (pc := 1111) dL_law_1111 rfl ?_
  refine K_LW (pc := 1112) (k' := (k.1 + 12, k.2 + 100)) (as := [.ref 800000, .int ((gt Γ 4).2.2 (5 * n + 1)), .ref 1990000]) (rest := []) mok_L_clock lk_L_177 (rmB_le (a := 10100) (b := 100200) rfl (by omega) (by omega)) rfl rfl (aos0 rfl) dL_law_1112 (W_clock hH hop) rfl ?_
  rintro v Y1 ⟨i9, hi9, rfl, e25, nx, ey⟩
  have hS := (SH_nx nx).2.2.2.2.1
  have hJ2 := (SH_nx nx).2.2.2.2.2
  have eW : wM Y1 F = Y1 := by rw [← hF, ← nx.1]; exact wM_rF Y1
  have hm := hM2 Y1 hS
  rw [eW] at hm
  show G _ _ _ _ _ _ _ [.int (nI i9)] _
  refine G_istore (pc := 1115) dL_law_1115 (by decide) ?_
  refine G_aload_n (pc := 1117) dL_law_1117 rfl ?_
  refine G_aload_n (pc := 1118) dL_law_1118 rfl ?_
  refine G_iload (pc := 1119) dL_law_1119 rfl ?_
  refine G_iconst (pc := 1121) (v := nI 1) dL_law_1121 (by first | rfl | decide) ?_
  refine G_iaddN (pc := 1122) dL_law_1122 ?_
  refine G_sald (pc := 1123) (i := 4) (j := _) (by decide) rfl (by first | omega | decide) (by omega) dL_law_1123 ?_
  refine K_Vn1r (pc := 1124) (k' := (k.1 + 12, k.2 + 100)) mok_X10_clock lk_L_179 hS.1 rfl rfl (rmB_le (a := 10100) (b := 100200) rfl (show k.1 + 12 ≤ _ by omega) (show k.2 + 100 ≤ _ by omega)) (aok0 rfl) dL_law_1124 hm rfl ?_
  refine G_istore (pc := 1127) dL_law_1127 (by decide) ?_
  refine G_aload_n (pc := 1129) dL_law_1129 rfl ?_
  refine K_Vn0r (pc := 1130) (k' := (k.1 + 12, k.2 + 100)) mok_X10_thrown lk_L_127 hS.1 rfl rfl (rmB_le (a := 10100) (b := 100200) rfl (show k.1 + 12 ≤ _ by omega) (show k.2 + 100 ≤ _ by omega)) (aok0 rfl) dL_law_1130 (C_thrown hS F') rfl ?_
  refine G_iload (pc := 1133) dL_law_1133 rfl ?_
  refine G_icmp_eq (pc := 1135) (tgt := 1140) dL_law_1135 (by decide) (fun c1135 => ?_) (fun c1135 => ?_)
  · skip
    refine G_iload (pc := 1140) dL_law_1140 rfl ?_
    refine G_if_ne (pc := 1142) (tgt := 1157) dL_law_1142 (by decide) (fun c1142 => ?_) (fun c1142 => ?_)
    · skip
      refine G_goto (pc := 1157) (tgt := 2232) dL_law_1157 (by decide) ?_
      exact G_weak wk7 (next (k.1 + 12, k.2 + 100) (wM Y1 F') _ (Nat.add_le_add_left (by decide) _) (Nat.add_le_add_left (by decide) _) nx.go rfl)
    · skip
      refine G_aload_n (pc := 1145) dL_law_1145 rfl ?_
      refine G_iconst (pc := 1146) (v := nI 0) dL_law_1146 (by first | rfl | decide) ?_
      refine G_lald (pc := 1147) (j := 0) hJ2.1 rfl (show 0 < xn Y1 1990000 by rw [hJ2.2]; decide) (by omega) dL_law_1147 ?_
      refine G_iload (pc := 1148) dL_law_1148 rfl ?_
      refine G_i2l (pc := 1150) dL_law_1150 ?_
      refine G_lcmp (pc := 1151) dL_law_1151 ?_
      refine G_if_eq (pc := 1152) (tgt := 1157) dL_law_1152 (by decide) (fun c1152 => ?_) (fun c1152 => ?_)
      · skip
        refine G_goto (pc := 1157) (tgt := 2232) dL_law_1157 (by decide) ?_
        exact G_weak wk7 (next (k.1 + 12, k.2 + 100) (wM Y1 F') _ (Nat.add_le_add_left (by decide) _) (Nat.add_le_add_left (by decide) _) nx.go rfl)
      · exact absurd (lcmp_eq (show xJ Y1 1990000 0 = _ from ey (nI_z hi9 c1142))) c1152
  · exact absurd e25 c1135
theorem LC_frameOn {Γ : GTy} (hG : GS Γ) {W : WTy} {k : Nat × Nat} {n : Nat} {Z : HS} {F A : FT} {g : GN} (h : CI n Z F g A) (hF : rF Z = F) (hn : n < 512) (hL : 5 * n + 5 ≤ (gt Γ 4).2.1) (hL2 : (gt Γ 4).2.1 ≤ 2560) (k1 : k.1 ≤ 10000) (k2 : k.2 ≤ 100000) (next : LN Γ W n k) : G Γ M_L_law room_1 W k 1160 [some (.ref (sid 4)), some (.ref 800000), some (.ref 900000), some (.ref 1990000), some (.int (nI (5 * n))), none, none] [] Z := by
  have hH := h.1
  have hJ := hH.2.2.2.2.2.1
  obtain ⟨b, F', hM2, hop⟩ := op_frameOn hG h hn ((gt Γ 4).2.2 (5 * n + 1))
  refine G_aload_n (pc := 1160) dL_law_1160 rfl ?_
  refine G_aload_n (pc := 1161) dL_law_1161 rfl ?_
  refine G_iload (pc := 1162) dL_law_1162 rfl ?_
  refine G_iconst (pc := 1164) (v := nI 1) dL_law_1164 (by first | rfl | decide) ?_
  refine G_iaddN (pc := 1165) dL_law_1165 ?_
  refine G_sald (pc := 1166) (i := 4) (j := _) (by decide) rfl (by first | omega | decide) (by omega) dL_law_1166 ?_
  refine G_aload_n (pc := 1167) dL_law_1167 rfl ?_
  refine K_LW (pc := 1168) (k' := (k.1 + 12, k.2 + 100)) (as := [.ref 800000, .int ((gt Γ 4).2.2 (5 * n + 1)), .ref 1990000]) (rest := []) mok_L_frameOn lk_L_180 (rmB_le (a := 10100) (b := 100200) rfl (by omega) (by omega)) rfl rfl (aos0 rfl) dL_law_1168 (W_frameOn hH hop) rfl ?_
  rintro v Y1 ⟨i9, hi9, rfl, e25, nx, ey⟩
  have hS := (SH_nx nx).2.2.2.2.1
  have hJ2 := (SH_nx nx).2.2.2.2.2
  have eW : wM Y1 F = Y1 := by rw [← hF, ← nx.1]; exact wM_rF Y1
  have hm := hM2 Y1 hS
  rw [eW] at hm
  show G _ _ _ _ _ _ _ [.int (nI i9)] _
  refine G_istore (pc := 1171) dL_law_1171 (by decide) ?_
  refine G_aload_n (pc := 1173) dL_law_1173 rfl ?_
  refine G_aload_n (pc := 1174) dL_law_1174 rfl ?_
  refine G_iload (pc := 1175) dL_law_1175 rfl ?_
  refine G_iconst (pc := 1177) (v := nI 1) dL_law_1177 (by first | rfl | decide) ?_
  refine G_iaddN (pc := 1178) dL_law_1178 ?_
  refine G_sald (pc := 1179) (i := 4) (j := _) (by decide) rfl (by first | omega | decide) (by omega) dL_law_1179 ?_
  refine K_Vn1r (pc := 1180) (k' := (k.1 + 12, k.2 + 100)) mok_X10_frameOn lk_L_182 hS.1 rfl rfl (rmB_le (a := 10100) (b := 100200) rfl (show k.1 + 12 ≤ _ by omega) (show k.2 + 100 ≤ _ by omega)) (aok0 rfl) dL_law_1180 hm rfl ?_
  refine G_istore (pc := 1183) dL_law_1183 (by decide) ?_
  refine G_aload_n (pc := 1185) dL_law_1185 rfl ?_
  refine K_Vn0r (pc := 1186) (k' := (k.1 + 12, k.2 + 100)) mok_X10_thrown lk_L_127 hS.1 rfl rfl (rmB_le (a := 10100) (b := 100200) rfl (show k.1 + 12 ≤ _ by omega) (show k.2 + 100 ≤ _ by omega)) (aok0 rfl) dL_law_1186 (C_thrown hS F') rfl ?_
  refine G_iload (pc := 1189) dL_law_1189 rfl ?_
  refine G_icmp_eq (pc := 1191) (tgt := 1196) dL_law_1191 (by decide) (fun c1191 => ?_) (fun c1191 => ?_)
  · skip
    refine G_iload (pc := 1196) dL_law_1196 rfl ?_
    refine G_if_ne (pc := 1198) (tgt := 1213) dL_law_1198 (by decide) (fun c1198 => ?_) (fun c1198 => ?_)
    · skip
      refine G_goto (pc := 1213) (tgt := 2232) dL_law_1213 (by decide) ?_
      exact G_weak wk7 (next (k.1 + 12, k.2 + 100) (wM Y1 F') _ (Nat.add_le_add_left (by decide) _) (Nat.add_le_add_left (by decide) _) nx.go rfl)
    · skip
      refine G_aload_n (pc := 1201) dL_law_1201 rfl ?_
      refine G_iconst (pc := 1202) (v := nI 0) dL_law_1202 (by first | rfl | decide) ?_
      refine G_lald (pc := 1203) (j := 0) hJ2.1 rfl (show 0 < xn Y1 1990000 by rw [hJ2.2]; decide) (by omega) dL_law_1203 ?_
      refine G_iload (pc := 1204) dL_law_1204 rfl ?_
      refine G_i2l (pc := 1206) dL_law_1206 ?_
      refine G_lcmp (pc := 1207) dL_law_1207 ?_
      refine G_if_eq (pc := 1208) (tgt := 1213) dL_law_1208 (by decide) (fun c1208 => ?_) (fun c1208 => ?_)
      · skip
        refine G_goto (pc := 1213) (tgt := 2232) dL_law_1213 (by decide) ?_
        exact G_weak wk7 (next (k.1 + 12, k.2 + 100) (wM Y1 F') _ (Nat.add_le_add_left (by decide) _) (Nat.add_le_add_left (by decide) _) nx.go rfl)
      · exact absurd (lcmp_eq (show xJ Y1 1990000 0 = _ from ey (nI_z hi9 c1198))) c1208
  · exact absurd e25 c1191
theorem LC_owes {Γ : GTy} (hG : GS Γ) {W : WTy} {k : Nat × Nat} {n : Nat} {Z : HS} {F A : FT} {g : GN} (h : CI n Z F g A) (hF : rF Z = F) (hn : n < 512) (hL : 5 * n + 5 ≤ (gt Γ 4).2.1) (hL2 : (gt Γ 4).2.1 ≤ 2560) (k1 : k.1 ≤ 10000) (k2 : k.2 ≤ 100000) (next : LN Γ W n k) : G Γ M_L_law room_1 W k 1216 [some (.ref (sid 4)), some (.ref 800000), some (.ref 900000), some (.ref 1990000), some (.int (nI (5 * n))), none, none] [] Z := by
  have hH := h.1
  have hJ := hH.2.2.2.2.2.1
  obtain ⟨b, F', hM2, hop⟩ := op_owes hG h hn ((gt Γ 4).2.2 (5 * n + 1))
  refine G_aload_n (pc := 1216) dL_law_1216 rfl ?_
  refine G_aload_n (pc := 1217) dL_law_1217 rfl ?_
  refine G_iload (pc := 1218) dL_law_1218 rfl ?_
  refine G_iconst (pc := 1220) (v := nI 1) dL_law_1220 (by first | rfl | decide) ?_
  refine G_iaddN (pc := 1221) dL_law_1221 ?_
  refine G_sald (pc := 1222) (i := 4) (j := _) (by decide) rfl (by first | omega | decide) (by omega) dL_law_1222 ?_
  refine G_aload_n (pc := 1223) dL_law_1223 rfl ?_
  refine K_LW (pc := 1224) (k' := (k.1 + 12, k.2 + 100)) (as := [.ref 800000, .int ((gt Γ 4).2.2 (5 * n + 1)), .ref 1990000]) (rest := []) mok_L_owes lk_L_183 (rmB_le (a := 10100) (b := 100200) rfl (by omega) (by omega)) rfl rfl (aos0 rfl) dL_law_1224 (W_owes hH hop) rfl ?_
  rintro v Y1 ⟨i9, hi9, rfl, e25, nx, ey⟩
  have hS := (SH_nx nx).2.2.2.2.1
  have hJ2 := (SH_nx nx).2.2.2.2.2
  have eW : wM Y1 F = Y1 := by rw [← hF, ← nx.1]; exact wM_rF Y1
  have hm := hM2 Y1 hS
  rw [eW] at hm
  show G _ _ _ _ _ _ _ [.int (nI i9)] _
  refine G_istore (pc := 1227) dL_law_1227 (by decide) ?_
  refine G_aload_n (pc := 1229) dL_law_1229 rfl ?_
  refine G_aload_n (pc := 1230) dL_law_1230 rfl ?_
  refine G_iload (pc := 1231) dL_law_1231 rfl ?_
  refine G_iconst (pc := 1233) (v := nI 1) dL_law_1233 (by first | rfl | decide) ?_
  refine G_iaddN (pc := 1234) dL_law_1234 ?_
  refine G_sald (pc := 1235) (i := 4) (j := _) (by decide) rfl (by first | omega | decide) (by omega) dL_law_1235 ?_
  refine K_Vn1r (pc := 1236) (k' := (k.1 + 12, k.2 + 100)) mok_X10_owes lk_L_185 hS.1 rfl rfl (rmB_le (a := 10100) (b := 100200) rfl (show k.1 + 12 ≤ _ by omega) (show k.2 + 100 ≤ _ by omega)) (aok0 rfl) dL_law_1236 hm rfl ?_
  refine G_istore (pc := 1239) dL_law_1239 (by decide) ?_
  refine G_aload_n (pc := 1241) dL_law_1241 rfl ?_
  refine K_Vn0r (pc := 1242) (k' := (k.1 + 12, k.2 + 100)) mok_X10_thrown lk_L_127 hS.1 rfl rfl (rmB_le (a := 10100) (b := 100200) rfl (show k.1 + 12 ≤ _ by omega) (show k.2 + 100 ≤ _ by omega)) (aok0 rfl) dL_law_1242 (C_thrown hS F') rfl ?_
  refine G_iload (pc := 1245) dL_law_1245 rfl ?_
  refine G_icmp_eq (pc := 1247) (tgt := 1252) dL_law_1247 (by decide) (fun c1247 => ?_) (fun c1247 => ?_)
  · skip
    refine G_iload (pc := 1252) dL_law_1252 rfl ?_
    refine G_if_ne (pc := 1254) (tgt := 1269) dL_law_1254 (by decide) (fun c1254 => ?_) (fun c1254 => ?_)
    · skip
      refine G_goto (pc := 1269) (tgt := 2232) dL_law_1269 (by decide) ?_
      exact G_weak wk7 (next (k.1 + 12, k.2 + 100) (wM Y1 F') _ (Nat.add_le_add_left (by decide) _) (Nat.add_le_add_left (by decide) _) nx.go rfl)
    · skip
      refine G_aload_n (pc := 1257) dL_law_1257 rfl ?_
      refine G_iconst (pc := 1258) (v := nI 0) dL_law_1258 (by first | rfl | decide) ?_
      refine G_lald (pc := 1259) (j := 0) hJ2.1 rfl (show 0 < xn Y1 1990000 by rw [hJ2.2]; decide) (by omega) dL_law_1259 ?_
      refine G_iload (pc := 1260) dL_law_1260 rfl ?_
      refine G_i2l (pc := 1262) dL_law_1262 ?_
      refine G_lcmp (pc := 1263) dL_law_1263 ?_
      refine G_if_eq (pc := 1264) (tgt := 1269) dL_law_1264 (by decide) (fun c1264 => ?_) (fun c1264 => ?_)
      · skip
        refine G_goto (pc := 1269) (tgt := 2232) dL_law_1269 (by decide) ?_
        exact G_weak wk7 (next (k.1 + 12, k.2 + 100) (wM Y1 F') _ (Nat.add_le_add_left (by decide) _) (Nat.add_le_add_left (by decide) _) nx.go rfl)
      · exact absurd (lcmp_eq (show xJ Y1 1990000 0 = _ from ey (nI_z hi9 c1254))) c1264
  · exact absurd e25 c1247
theorem LC_owesAnew {Γ : GTy} (hG : GS Γ) {W : WTy} {k : Nat × Nat} {n : Nat} {Z : HS} {F A : FT} {g : GN} (h : CI n Z F g A) (hF : rF Z = F) (hn : n < 512) (hL : 5 * n + 5 ≤ (gt Γ 4).2.1) (hL2 : (gt Γ 4).2.1 ≤ 2560) (k1 : k.1 ≤ 10000) (k2 : k.2 ≤ 100000) (next : LN Γ W n k) : G Γ M_L_law room_1 W k 1272 [some (.ref (sid 4)), some (.ref 800000), some (.ref 900000), some (.ref 1990000), some (.int (nI (5 * n))), none, none] [] Z := by
  have hH := h.1
  have hJ := hH.2.2.2.2.2.1
  obtain ⟨b, F', hM2, hop⟩ := op_owesAnew hG h hn ((gt Γ 4).2.2 (5 * n + 1))
  refine G_aload_n (pc := 1272) dL_law_1272 rfl ?_
  refine G_aload_n (pc := 1273) dL_law_1273 rfl ?_
  refine G_iload (pc := 1274) dL_law_1274 rfl ?_
  refine G_iconst (pc := 1276) (v := nI 1) dL_law_1276 (by first | rfl | decide) ?_
  refine G_iaddN (pc := 1277) dL_law_1277 ?_
  refine G_sald (pc := 1278) (i := 4) (j := _) (by decide) rfl (by first | omega | decide) (by omega) dL_law_1278 ?_
  refine G_aload_n (pc := 1279) dL_law_1279 rfl ?_
  refine K_LW (pc := 1280) (k' := (k.1 + 12, k.2 + 100)) (as := [.ref 800000, .int ((gt Γ 4).2.2 (5 * n + 1)), .ref 1990000]) (rest := []) mok_L_owesAnew lk_L_186 (rmB_le (a := 10100) (b := 100200) rfl (by omega) (by omega)) rfl rfl (aos0 rfl) dL_law_1280 (W_owesAnew hH hop) rfl ?_
  rintro v Y1 ⟨i9, hi9, rfl, e25, nx, ey⟩
  have hS := (SH_nx nx).2.2.2.2.1
  have hJ2 := (SH_nx nx).2.2.2.2.2
  have eW : wM Y1 F = Y1 := by rw [← hF, ← nx.1]; exact wM_rF Y1
  have hm := hM2 Y1 hS
  rw [eW] at hm
  show G _ _ _ _ _ _ _ [.int (nI i9)] _
  refine G_istore (pc := 1283) dL_law_1283 (by decide) ?_
  refine G_aload_n (pc := 1285) dL_law_1285 rfl ?_
  refine G_aload_n (pc := 1286) dL_law_1286 rfl ?_
  refine G_iload (pc := 1287) dL_law_1287 rfl ?_
  refine G_iconst (pc := 1289) (v := nI 1) dL_law_1289 (by first | rfl | decide) ?_
  refine G_iaddN (pc := 1290) dL_law_1290 ?_
  refine G_sald (pc := 1291) (i := 4) (j := _) (by decide) rfl (by first | omega | decide) (by omega) dL_law_1291 ?_
  refine K_Vn1r (pc := 1292) (k' := (k.1 + 12, k.2 + 100)) mok_X10_owesAnew lk_L_188 hS.1 rfl rfl (rmB_le (a := 10100) (b := 100200) rfl (show k.1 + 12 ≤ _ by omega) (show k.2 + 100 ≤ _ by omega)) (aok0 rfl) dL_law_1292 hm rfl ?_
  refine G_istore (pc := 1295) dL_law_1295 (by decide) ?_
  refine G_aload_n (pc := 1297) dL_law_1297 rfl ?_
  refine K_Vn0r (pc := 1298) (k' := (k.1 + 12, k.2 + 100)) mok_X10_thrown lk_L_127 hS.1 rfl rfl (rmB_le (a := 10100) (b := 100200) rfl (show k.1 + 12 ≤ _ by omega) (show k.2 + 100 ≤ _ by omega)) (aok0 rfl) dL_law_1298 (C_thrown hS F') rfl ?_
  refine G_iload (pc := 1301) dL_law_1301 rfl ?_
  refine G_icmp_eq (pc := 1303) (tgt := 1308) dL_law_1303 (by decide) (fun c1303 => ?_) (fun c1303 => ?_)
  · skip
    refine G_iload (pc := 1308) dL_law_1308 rfl ?_
    refine G_if_ne (pc := 1310) (tgt := 1325) dL_law_1310 (by decide) (fun c1310 => ?_) (fun c1310 => ?_)
    · skip
      refine G_goto (pc := 1325) (tgt := 2232) dL_law_1325 (by decide) ?_
      exact G_weak wk7 (next (k.1 + 12, k.2 + 100) (wM Y1 F') _ (Nat.add_le_add_left (by decide) _) (Nat.add_le_add_left (by decide) _) nx.go rfl)
    · skip
      refine G_aload_n (pc := 1313) dL_law_1313 rfl ?_
      refine G_iconst (pc := 1314) (v := nI 0) dL_law_1314 (by first | rfl | decide) ?_
      refine G_lald (pc := 1315) (j := 0) hJ2.1 rfl (show 0 < xn Y1 1990000 by rw [hJ2.2]; decide) (by omega) dL_law_1315 ?_
      refine G_iload (pc := 1316) dL_law_1316 rfl ?_
      refine G_i2l (pc := 1318) dL_law_1318 ?_
      refine G_lcmp (pc := 1319) dL_law_1319 ?_
      refine G_if_eq (pc := 1320) (tgt := 1325) dL_law_1320 (by decide) (fun c1320 => ?_) (fun c1320 => ?_)
      · skip
        refine G_goto (pc := 1325) (tgt := 2232) dL_law_1325 (by decide) ?_
        exact G_weak wk7 (next (k.1 + 12, k.2 + 100) (wM Y1 F') _ (Nat.add_le_add_left (by decide) _) (Nat.add_le_add_left (by decide) _) nx.go rfl)
      · exact absurd (lcmp_eq (show xJ Y1 1990000 0 = _ from ey (nI_z hi9 c1310))) c1320
  · exact absurd e25 c1303
theorem LC_frames {Γ : GTy} (hG : GS Γ) {W : WTy} {k : Nat × Nat} {n : Nat} {Z : HS} {F A : FT} {g : GN} (h : CI n Z F g A) (hF : rF Z = F) (hn : n < 512) (hL : 5 * n + 5 ≤ (gt Γ 4).2.1) (hL2 : (gt Γ 4).2.1 ≤ 2560) (k1 : k.1 ≤ 10000) (k2 : k.2 ≤ 100000) (next : LN Γ W n k) : G Γ M_L_law room_1 W k 1328 [some (.ref (sid 4)), some (.ref 800000), some (.ref 900000), some (.ref 1990000), some (.int (nI (5 * n))), none, none] [] Z := by
  have hH := h.1
  have hS := hH.2.2.2.2.1
  have hJ := hH.2.2.2.2.2.1
  obtain ⟨b, F', hM2, nx, hop⟩ := op_frames h hn
  have eW : wM Z F = Z := by rw [← hF]; exact wM_rF Z
  have hm := hM2 Z hS
  rw [eW] at hm
  refine G_aload_n (pc := 1328) dL_law_1328 rfl ?_
  refine K_Vn0r (pc := 1329) (k' := k) mok_X9_frames lk_L_189 (sh_k hH) rfl rfl (rmB_le (a := 10100) (b := 100200) rfl (by omega) (by omega)) (aok0 rfl) dL_law_1329 hop rfl ?_
  refine G_aload_n (pc := 1332) dL_law_1332 rfl ?_
  refine K_Vn0r (pc := 1333) (k' := k) mok_X10_frames lk_L_192 hS.1 rfl rfl (rmB_le (a := 10100) (b := 100200) rfl (by omega) (by omega)) (aok0 rfl) dL_law_1333 hm rfl ?_
  refine G_icmp_eq (pc := 1336) (tgt := 2232) dL_law_1336 (by decide) (fun c1336 => ?_) (fun c1336 => ?_)
  · exact next k (wM Z F') _ (Nat.le_add_right _ _) (Nat.le_add_right _ _) nx.go rfl
  · exact absurd rfl c1336
theorem LC_state {Γ : GTy} (hG : GS Γ) {W : WTy} {k : Nat × Nat} {n : Nat} {Z : HS} {F A : FT} {g : GN} (h : CI n Z F g A) (hF : rF Z = F) (hn : n < 512) (hL : 5 * n + 5 ≤ (gt Γ 4).2.1) (hL2 : (gt Γ 4).2.1 ≤ 2560) (k1 : k.1 ≤ 10000) (k2 : k.2 ≤ 100000) (next : LN Γ W n k) : G Γ M_L_law room_1 W k 1341 [some (.ref (sid 4)), some (.ref 800000), some (.ref 900000), some (.ref 1990000), some (.int (nI (5 * n))), none, none] [] Z := by
  have hH := h.1
  have hJ := hH.2.2.2.2.2.1
  obtain ⟨b, F', hM2, hop⟩ := op_state hG h hn ((gt Γ 4).2.2 (5 * n + 1))
  refine G_aload_n (pc := 1341) dL_law_1341 rfl ?_
  refine G_aload_n (pc := 1342) dL_law_1342 rfl ?_
  refine G_iload (pc := 1343) dL_law_1343 rfl ?_
  refine G_iconst (pc := 1345) (v := nI 1) dL_law_1345 (by first | rfl | decide) ?_
  refine G_iaddN (pc := 1346) dL_law_1346 ?_
  refine G_sald (pc := 1347) (i := 4) (j := _) (by decide) rfl (by first | omega | decide) (by omega) dL_law_1347 ?_
  refine G_aload_n (pc := 1348) dL_law_1348 rfl ?_
  refine K_LW (pc := 1349) (k' := (k.1 + 12, k.2 + 100)) (as := [.ref 800000, .int ((gt Γ 4).2.2 (5 * n + 1)), .ref 1990000]) (rest := []) mok_L_state lk_L_193 (rmB_le (a := 10100) (b := 100200) rfl (by omega) (by omega)) rfl rfl (aos0 rfl) dL_law_1349 (W_state hH hop) rfl ?_
  rintro v Y1 ⟨i9, hi9, rfl, e25, nx, ey⟩
  have hS := (SH_nx nx).2.2.2.2.1
  have hJ2 := (SH_nx nx).2.2.2.2.2
  have eW : wM Y1 F = Y1 := by rw [← hF, ← nx.1]; exact wM_rF Y1
  have hm := hM2 Y1 hS
  rw [eW] at hm
  show G _ _ _ _ _ _ _ [.int (nI i9)] _
  refine G_istore (pc := 1352) dL_law_1352 (by decide) ?_
  refine G_aload_n (pc := 1354) dL_law_1354 rfl ?_
  refine G_aload_n (pc := 1355) dL_law_1355 rfl ?_
  refine G_iload (pc := 1356) dL_law_1356 rfl ?_
  refine G_iconst (pc := 1358) (v := nI 1) dL_law_1358 (by first | rfl | decide) ?_
  refine G_iaddN (pc := 1359) dL_law_1359 ?_
  refine G_sald (pc := 1360) (i := 4) (j := _) (by decide) rfl (by first | omega | decide) (by omega) dL_law_1360 ?_
  refine K_Vn1r (pc := 1361) (k' := (k.1 + 12, k.2 + 100)) mok_X10_state lk_L_195 hS.1 rfl rfl (rmB_le (a := 10100) (b := 100200) rfl (show k.1 + 12 ≤ _ by omega) (show k.2 + 100 ≤ _ by omega)) (aok0 rfl) dL_law_1361 hm rfl ?_
  refine G_istore (pc := 1364) dL_law_1364 (by decide) ?_
  refine G_aload_n (pc := 1366) dL_law_1366 rfl ?_
  refine K_Vn0r (pc := 1367) (k' := (k.1 + 12, k.2 + 100)) mok_X10_thrown lk_L_127 hS.1 rfl rfl (rmB_le (a := 10100) (b := 100200) rfl (show k.1 + 12 ≤ _ by omega) (show k.2 + 100 ≤ _ by omega)) (aok0 rfl) dL_law_1367 (C_thrown hS F') rfl ?_
  refine G_iload (pc := 1370) dL_law_1370 rfl ?_
  refine G_icmp_eq (pc := 1372) (tgt := 1377) dL_law_1372 (by decide) (fun c1372 => ?_) (fun c1372 => ?_)
  · skip
    refine G_iload (pc := 1377) dL_law_1377 rfl ?_
    refine G_if_ne (pc := 1379) (tgt := 1394) dL_law_1379 (by decide) (fun c1379 => ?_) (fun c1379 => ?_)
    · skip
      refine G_goto (pc := 1394) (tgt := 2232) dL_law_1394 (by decide) ?_
      exact G_weak wk7 (next (k.1 + 12, k.2 + 100) (wM Y1 F') _ (Nat.add_le_add_left (by decide) _) (Nat.add_le_add_left (by decide) _) nx.go rfl)
    · skip
      refine G_aload_n (pc := 1382) dL_law_1382 rfl ?_
      refine G_iconst (pc := 1383) (v := nI 0) dL_law_1383 (by first | rfl | decide) ?_
      refine G_lald (pc := 1384) (j := 0) hJ2.1 rfl (show 0 < xn Y1 1990000 by rw [hJ2.2]; decide) (by omega) dL_law_1384 ?_
      refine G_iload (pc := 1385) dL_law_1385 rfl ?_
      refine G_i2l (pc := 1387) dL_law_1387 ?_
      refine G_lcmp (pc := 1388) dL_law_1388 ?_
      refine G_if_eq (pc := 1389) (tgt := 1394) dL_law_1389 (by decide) (fun c1389 => ?_) (fun c1389 => ?_)
      · skip
        refine G_goto (pc := 1394) (tgt := 2232) dL_law_1394 (by decide) ?_
        exact G_weak wk7 (next (k.1 + 12, k.2 + 100) (wM Y1 F') _ (Nat.add_le_add_left (by decide) _) (Nat.add_le_add_left (by decide) _) nx.go rfl)
      · exact absurd (lcmp_eq (show xJ Y1 1990000 0 = _ from ey (nI_z hi9 c1379))) c1389
  · exact absurd e25 c1372
theorem LC_cell {Γ : GTy} (hG : GS Γ) {W : WTy} {k : Nat × Nat} {n : Nat} {Z : HS} {F A : FT} {g : GN} (h : CI n Z F g A) (hF : rF Z = F) (hn : n < 512) (hL : 5 * n + 5 ≤ (gt Γ 4).2.1) (hL2 : (gt Γ 4).2.1 ≤ 2560) (k1 : k.1 ≤ 10000) (k2 : k.2 ≤ 100000) (next : LN Γ W n k) : G Γ M_L_law room_1 W k 1397 [some (.ref (sid 4)), some (.ref 800000), some (.ref 900000), some (.ref 1990000), some (.int (nI (5 * n))), none, none] [] Z := by
  have hH := h.1
  have hJ := hH.2.2.2.2.2.1
  obtain ⟨b, F', hM2, hop⟩ := op_cell hG h hn ((gt Γ 4).2.2 (5 * n + 1)) ((gt Γ 4).2.2 (5 * n + 2))
  refine G_aload_n (pc := 1397) dL_law_1397 rfl ?_
  refine G_aload_n (pc := 1398) dL_law_1398 rfl ?_
  refine G_iload (pc := 1399) dL_law_1399 rfl ?_
  refine G_iconst (pc := 1401) (v := nI 1) dL_law_1401 (by first | rfl | decide) ?_
  refine G_iaddN (pc := 1402) dL_law_1402 ?_
  refine G_sald (pc := 1403) (i := 4) (j := _) (by decide) rfl (by first | omega | decide) (by omega) dL_law_1403 ?_
  refine G_aload_n (pc := 1404) dL_law_1404 rfl ?_
  refine G_iload (pc := 1405) dL_law_1405 rfl ?_
  refine G_iconst (pc := 1407) (v := nI 2) dL_law_1407 (by first | rfl | decide) ?_
  refine G_iaddN (pc := 1408) dL_law_1408 ?_
  refine G_sald (pc := 1409) (i := 4) (j := _) (by decide) rfl (by first | omega | decide) (by omega) dL_law_1409 ?_
  refine G_aload_n (pc := 1410) dL_law_1410 rfl ?_
  refine K_LW (pc := 1411) (k' := (k.1 + 2, k.2 + 12)) (as := [.ref 800000, .int ((gt Γ 4).2.2 (5 * n + 1)), .int ((gt Γ 4).2.2 (5 * n + 2)), .ref 1990000]) (rest := []) mok_L_cell lk_L_196 (rmB_le (a := 10100) (b := 100200) rfl (by omega) (by omega)) rfl rfl (aos0 rfl) dL_law_1411 (W_cell hH hop) rfl ?_
  rintro v Y1 ⟨i9, hi9, rfl, e25, nx, ey⟩
  have hS := (SH_nx nx).2.2.2.2.1
  have hJ2 := (SH_nx nx).2.2.2.2.2
  have eW : wM Y1 F = Y1 := by rw [← hF, ← nx.1]; exact wM_rF Y1
  have hm := hM2 Y1 hS
  rw [eW] at hm
  show G _ _ _ _ _ _ _ [.int (nI i9)] _
  refine G_istore (pc := 1414) dL_law_1414 (by decide) ?_
  refine G_aload_n (pc := 1416) dL_law_1416 rfl ?_
  refine G_aload_n (pc := 1417) dL_law_1417 rfl ?_
  refine G_iload (pc := 1418) dL_law_1418 rfl ?_
  refine G_iconst (pc := 1420) (v := nI 1) dL_law_1420 (by first | rfl | decide) ?_
  refine G_iaddN (pc := 1421) dL_law_1421 ?_
  refine G_sald (pc := 1422) (i := 4) (j := _) (by decide) rfl (by first | omega | decide) (by omega) dL_law_1422 ?_
  refine G_aload_n (pc := 1423) dL_law_1423 rfl ?_
  refine G_iload (pc := 1424) dL_law_1424 rfl ?_
  refine G_iconst (pc := 1426) (v := nI 2) dL_law_1426 (by first | rfl | decide) ?_
  refine G_iaddN (pc := 1427) dL_law_1427 ?_
  refine G_sald (pc := 1428) (i := 4) (j := _) (by decide) rfl (by first | omega | decide) (by omega) dL_law_1428 ?_
  refine K_Vn2r (pc := 1429) (k' := (k.1 + 2, k.2 + 12)) mok_X10_cell lk_L_198 hS.1 rfl rfl (rmB_le (a := 10100) (b := 100200) rfl (show k.1 + 2 ≤ _ by omega) (show k.2 + 12 ≤ _ by omega)) (aok0 rfl) dL_law_1429 hm rfl ?_
  refine G_istore (pc := 1432) dL_law_1432 (by decide) ?_
  refine G_aload_n (pc := 1434) dL_law_1434 rfl ?_
  refine K_Vn0r (pc := 1435) (k' := (k.1 + 2, k.2 + 12)) mok_X10_thrown lk_L_127 hS.1 rfl rfl (rmB_le (a := 10100) (b := 100200) rfl (show k.1 + 2 ≤ _ by omega) (show k.2 + 12 ≤ _ by omega)) (aok0 rfl) dL_law_1435 (C_thrown hS F') rfl ?_
  refine G_iload (pc := 1438) dL_law_1438 rfl ?_
  refine G_icmp_eq (pc := 1440) (tgt := 1445) dL_law_1440 (by decide) (fun c1440 => ?_) (fun c1440 => ?_)
  · skip
    refine G_iload (pc := 1445) dL_law_1445 rfl ?_
    refine G_if_ne (pc := 1447) (tgt := 1462) dL_law_1447 (by decide) (fun c1447 => ?_) (fun c1447 => ?_)
    · skip
      refine G_goto (pc := 1462) (tgt := 2232) dL_law_1462 (by decide) ?_
      exact G_weak wk7 (next (k.1 + 2, k.2 + 12) (wM Y1 F') _ (Nat.add_le_add_left (by decide) _) (Nat.add_le_add_left (by decide) _) nx.go rfl)
    · skip
      refine G_aload_n (pc := 1450) dL_law_1450 rfl ?_
      refine G_iconst (pc := 1451) (v := nI 0) dL_law_1451 (by first | rfl | decide) ?_
      refine G_lald (pc := 1452) (j := 0) hJ2.1 rfl (show 0 < xn Y1 1990000 by rw [hJ2.2]; decide) (by omega) dL_law_1452 ?_
      refine G_iload (pc := 1453) dL_law_1453 rfl ?_
      refine G_i2l (pc := 1455) dL_law_1455 ?_
      refine G_lcmp (pc := 1456) dL_law_1456 ?_
      refine G_if_eq (pc := 1457) (tgt := 1462) dL_law_1457 (by decide) (fun c1457 => ?_) (fun c1457 => ?_)
      · skip
        refine G_goto (pc := 1462) (tgt := 2232) dL_law_1462 (by decide) ?_
        exact G_weak wk7 (next (k.1 + 2, k.2 + 12) (wM Y1 F') _ (Nat.add_le_add_left (by decide) _) (Nat.add_le_add_left (by decide) _) nx.go rfl)
      · exact absurd (lcmp_eq (show xJ Y1 1990000 0 = _ from ey (nI_z hi9 c1447))) c1457
  · exact absurd e25 c1440
theorem LC_ballOn {Γ : GTy} (hG : GS Γ) {W : WTy} {k : Nat × Nat} {n : Nat} {Z : HS} {F A : FT} {g : GN} (h : CI n Z F g A) (hF : rF Z = F) (hn : n < 512) (hL : 5 * n + 5 ≤ (gt Γ 4).2.1) (hL2 : (gt Γ 4).2.1 ≤ 2560) (k1 : k.1 ≤ 10000) (k2 : k.2 ≤ 100000) (next : LN Γ W n k) : G Γ M_L_law room_1 W k 1465 [some (.ref (sid 4)), some (.ref 800000), some (.ref 900000), some (.ref 1990000), some (.int (nI (5 * n))), none, none] [] Z := by
  have hH := h.1
  have hJ := hH.2.2.2.2.2.1
  obtain ⟨b, F', hM2, hop⟩ := op_ballOn hG h hn ((gt Γ 4).2.2 (5 * n + 1))
  refine G_aload_n (pc := 1465) dL_law_1465 rfl ?_
  refine G_aload_n (pc := 1466) dL_law_1466 rfl ?_
  refine G_iload (pc := 1467) dL_law_1467 rfl ?_
  refine G_iconst (pc := 1469) (v := nI 1) dL_law_1469 (by first | rfl | decide) ?_
  refine G_iaddN (pc := 1470) dL_law_1470 ?_
  refine G_sald (pc := 1471) (i := 4) (j := _) (by decide) rfl (by first | omega | decide) (by omega) dL_law_1471 ?_
  refine G_aload_n (pc := 1472) dL_law_1472 rfl ?_
  refine K_LW (pc := 1473) (k' := (k.1 + 12, k.2 + 100)) (as := [.ref 800000, .int ((gt Γ 4).2.2 (5 * n + 1)), .ref 1990000]) (rest := []) mok_L_ballOn lk_L_199 (rmB_le (a := 10100) (b := 100200) rfl (by omega) (by omega)) rfl rfl (aos0 rfl) dL_law_1473 (W_ballOn hH hop) rfl ?_
  rintro v Y1 ⟨i9, hi9, rfl, e25, nx, ey⟩
  have hS := (SH_nx nx).2.2.2.2.1
  have hJ2 := (SH_nx nx).2.2.2.2.2
  have eW : wM Y1 F = Y1 := by rw [← hF, ← nx.1]; exact wM_rF Y1
  have hm := hM2 Y1 hS
  rw [eW] at hm
  show G _ _ _ _ _ _ _ [.int (nI i9)] _
  refine G_istore (pc := 1476) dL_law_1476 (by decide) ?_
  refine G_aload_n (pc := 1478) dL_law_1478 rfl ?_
  refine G_aload_n (pc := 1479) dL_law_1479 rfl ?_
  refine G_iload (pc := 1480) dL_law_1480 rfl ?_
  refine G_iconst (pc := 1482) (v := nI 1) dL_law_1482 (by first | rfl | decide) ?_
  refine G_iaddN (pc := 1483) dL_law_1483 ?_
  refine G_sald (pc := 1484) (i := 4) (j := _) (by decide) rfl (by first | omega | decide) (by omega) dL_law_1484 ?_
  refine K_Vn1r (pc := 1485) (k' := (k.1 + 12, k.2 + 100)) mok_X10_ballOn lk_L_201 hS.1 rfl rfl (rmB_le (a := 10100) (b := 100200) rfl (show k.1 + 12 ≤ _ by omega) (show k.2 + 100 ≤ _ by omega)) (aok0 rfl) dL_law_1485 hm rfl ?_
  refine G_istore (pc := 1488) dL_law_1488 (by decide) ?_
  refine G_aload_n (pc := 1490) dL_law_1490 rfl ?_
  refine K_Vn0r (pc := 1491) (k' := (k.1 + 12, k.2 + 100)) mok_X10_thrown lk_L_127 hS.1 rfl rfl (rmB_le (a := 10100) (b := 100200) rfl (show k.1 + 12 ≤ _ by omega) (show k.2 + 100 ≤ _ by omega)) (aok0 rfl) dL_law_1491 (C_thrown hS F') rfl ?_
  refine G_iload (pc := 1494) dL_law_1494 rfl ?_
  refine G_icmp_eq (pc := 1496) (tgt := 1501) dL_law_1496 (by decide) (fun c1496 => ?_) (fun c1496 => ?_)
  · skip
    refine G_iload (pc := 1501) dL_law_1501 rfl ?_
    refine G_if_ne (pc := 1503) (tgt := 1518) dL_law_1503 (by decide) (fun c1503 => ?_) (fun c1503 => ?_)
    · skip
      refine G_goto (pc := 1518) (tgt := 2232) dL_law_1518 (by decide) ?_
      exact G_weak wk7 (next (k.1 + 12, k.2 + 100) (wM Y1 F') _ (Nat.add_le_add_left (by decide) _) (Nat.add_le_add_left (by decide) _) nx.go rfl)
    · skip
      refine G_aload_n (pc := 1506) dL_law_1506 rfl ?_
      refine G_iconst (pc := 1507) (v := nI 0) dL_law_1507 (by first | rfl | decide) ?_
      refine G_lald (pc := 1508) (j := 0) hJ2.1 rfl (show 0 < xn Y1 1990000 by rw [hJ2.2]; decide) (by omega) dL_law_1508 ?_
      refine G_iload (pc := 1509) dL_law_1509 rfl ?_
      refine G_i2l (pc := 1511) dL_law_1511 ?_
      refine G_lcmp (pc := 1512) dL_law_1512 ?_
      refine G_if_eq (pc := 1513) (tgt := 1518) dL_law_1513 (by decide) (fun c1513 => ?_) (fun c1513 => ?_)
      · skip
        refine G_goto (pc := 1518) (tgt := 2232) dL_law_1518 (by decide) ?_
        exact G_weak wk7 (next (k.1 + 12, k.2 + 100) (wM Y1 F') _ (Nat.add_le_add_left (by decide) _) (Nat.add_le_add_left (by decide) _) nx.go rfl)
      · exact absurd (lcmp_eq (show xJ Y1 1990000 0 = _ from ey (nI_z hi9 c1503))) c1513
  · exact absurd e25 c1496
theorem LC_isFree {Γ : GTy} (hG : GS Γ) {W : WTy} {k : Nat × Nat} {n : Nat} {Z : HS} {F A : FT} {g : GN} (h : CI n Z F g A) (hF : rF Z = F) (hn : n < 512) (hL : 5 * n + 5 ≤ (gt Γ 4).2.1) (hL2 : (gt Γ 4).2.1 ≤ 2560) (k1 : k.1 ≤ 10000) (k2 : k.2 ≤ 100000) (next : LN Γ W n k) : G Γ M_L_law room_1 W k 1521 [some (.ref (sid 4)), some (.ref 800000), some (.ref 900000), some (.ref 1990000), some (.int (nI (5 * n))), none, none] [] Z := by
  have hH := h.1
  have hJ := hH.2.2.2.2.2.1
  obtain ⟨b, F', hM2, hop⟩ := op_isFree hG h hn ((gt Γ 4).2.2 (5 * n + 1))
  refine G_aload_n (pc := 1521) dL_law_1521 rfl ?_
  refine G_aload_n (pc := 1522) dL_law_1522 rfl ?_
  refine G_iload (pc := 1523) dL_law_1523 rfl ?_
  refine G_iconst (pc := 1525) (v := nI 1) dL_law_1525 (by first | rfl | decide) ?_
  refine G_iaddN (pc := 1526) dL_law_1526 ?_
  refine G_sald (pc := 1527) (i := 4) (j := _) (by decide) rfl (by first | omega | decide) (by omega) dL_law_1527 ?_
  refine G_aload_n (pc := 1528) dL_law_1528 rfl ?_
  refine K_LW (pc := 1529) (k' := (k.1 + 12, k.2 + 100)) (as := [.ref 800000, .int ((gt Γ 4).2.2 (5 * n + 1)), .ref 1990000]) (rest := []) mok_L_isFree lk_L_202 (rmB_le (a := 10100) (b := 100200) rfl (by omega) (by omega)) rfl rfl (aos0 rfl) dL_law_1529 (W_isFree hH hop) rfl ?_
  rintro v Y1 ⟨i9, hi9, rfl, e25, nx, ey⟩
  have hS := (SH_nx nx).2.2.2.2.1
  have hJ2 := (SH_nx nx).2.2.2.2.2
  have eW : wM Y1 F = Y1 := by rw [← hF, ← nx.1]; exact wM_rF Y1
  have hm := hM2 Y1 hS
  rw [eW] at hm
  show G _ _ _ _ _ _ _ [.int (nI i9)] _
  refine G_istore (pc := 1532) dL_law_1532 (by decide) ?_
  refine G_aload_n (pc := 1534) dL_law_1534 rfl ?_
  refine G_aload_n (pc := 1535) dL_law_1535 rfl ?_
  refine G_iload (pc := 1536) dL_law_1536 rfl ?_
  refine G_iconst (pc := 1538) (v := nI 1) dL_law_1538 (by first | rfl | decide) ?_
  refine G_iaddN (pc := 1539) dL_law_1539 ?_
  refine G_sald (pc := 1540) (i := 4) (j := _) (by decide) rfl (by first | omega | decide) (by omega) dL_law_1540 ?_
  refine K_Vn1r (pc := 1541) (k' := (k.1 + 12, k.2 + 100)) mok_X10_isFree lk_L_204 hS.1 rfl rfl (rmB_le (a := 10100) (b := 100200) rfl (show k.1 + 12 ≤ _ by omega) (show k.2 + 100 ≤ _ by omega)) (aok0 rfl) dL_law_1541 hm rfl ?_
  refine G_istore (pc := 1544) dL_law_1544 (by decide) ?_
  refine G_aload_n (pc := 1546) dL_law_1546 rfl ?_
  refine K_Vn0r (pc := 1547) (k' := (k.1 + 12, k.2 + 100)) mok_X10_thrown lk_L_127 hS.1 rfl rfl (rmB_le (a := 10100) (b := 100200) rfl (show k.1 + 12 ≤ _ by omega) (show k.2 + 100 ≤ _ by omega)) (aok0 rfl) dL_law_1547 (C_thrown hS F') rfl ?_
  refine G_iload (pc := 1550) dL_law_1550 rfl ?_
  refine G_icmp_eq (pc := 1552) (tgt := 1557) dL_law_1552 (by decide) (fun c1552 => ?_) (fun c1552 => ?_)
  · skip
    refine G_iload (pc := 1557) dL_law_1557 rfl ?_
    refine G_if_ne (pc := 1559) (tgt := 1581) dL_law_1559 (by decide) (fun c1559 => ?_) (fun c1559 => ?_)
    · skip
      refine G_goto (pc := 1581) (tgt := 2232) dL_law_1581 (by decide) ?_
      exact G_weak wk7 (next (k.1 + 12, k.2 + 100) (wM Y1 F') _ (Nat.add_le_add_left (by decide) _) (Nat.add_le_add_left (by decide) _) nx.go rfl)
    · skip
      refine G_aload_n (pc := 1562) dL_law_1562 rfl ?_
      refine G_iconst (pc := 1563) (v := nI 0) dL_law_1563 (by first | rfl | decide) ?_
      refine G_lald (pc := 1564) (j := 0) hJ2.1 rfl (show 0 < xn Y1 1990000 by rw [hJ2.2]; decide) (by omega) dL_law_1564 ?_
      refine G_iload (pc := 1565) dL_law_1565 rfl ?_
      refine G_if_eq (pc := 1567) (tgt := 1574) dL_law_1567 (by decide) (fun c1567 => ?_) (fun c1567 => ?_)
      · skip
        have ez : (if b = 0 then (0 : Int64) else 1) = 0 := if_pos c1567
        refine G_lconst (pc := 1574) (v := 0) dL_law_1574 (by first | rfl | decide) ?_
        refine G_lcmp (pc := 1575) dL_law_1575 ?_
        refine G_if_eq (pc := 1576) (tgt := 1581) dL_law_1576 (by decide) (fun c1576 => ?_) (fun c1576 => ?_)
        · skip
          refine G_goto (pc := 1581) (tgt := 2232) dL_law_1581 (by decide) ?_
          exact G_weak wk7 (next (k.1 + 12, k.2 + 100) (wM Y1 F') _ (Nat.add_le_add_left (by decide) _) (Nat.add_le_add_left (by decide) _) nx.go rfl)
        · exact absurd (lcmp_eq (show xJ Y1 1990000 0 = _ from (ey (nI_z hi9 c1559)).trans ez)) c1576
      · skip
        have ez : (if b = 0 then (0 : Int64) else 1) = 1 := if_neg c1567
        refine G_lconst (pc := 1570) (v := 1) dL_law_1570 (by first | rfl | decide) ?_
        refine G_goto (pc := 1571) (tgt := 1575) dL_law_1571 (by decide) ?_
        refine G_lcmp (pc := 1575) dL_law_1575 ?_
        refine G_if_eq (pc := 1576) (tgt := 1581) dL_law_1576 (by decide) (fun c1576 => ?_) (fun c1576 => ?_)
        · skip
          refine G_goto (pc := 1581) (tgt := 2232) dL_law_1581 (by decide) ?_
          exact G_weak wk7 (next (k.1 + 12, k.2 + 100) (wM Y1 F') _ (Nat.add_le_add_left (by decide) _) (Nat.add_le_add_left (by decide) _) nx.go rfl)
        · exact absurd (lcmp_eq (show xJ Y1 1990000 0 = _ from (ey (nI_z hi9 c1559)).trans ez)) c1576
  · exact absurd e25 c1552
theorem LC_turn {Γ : GTy} (hG : GS Γ) {W : WTy} {k : Nat × Nat} {n : Nat} {Z : HS} {F A : FT} {g : GN} (h : CI n Z F g A) (hF : rF Z = F) (hn : n < 512) (hL : 5 * n + 5 ≤ (gt Γ 4).2.1) (hL2 : (gt Γ 4).2.1 ≤ 2560) (k1 : k.1 ≤ 10000) (k2 : k.2 ≤ 100000) (next : LN Γ W n k) : G Γ M_L_law room_1 W k 1584 [some (.ref (sid 4)), some (.ref 800000), some (.ref 900000), some (.ref 1990000), some (.int (nI (5 * n))), none, none] [] Z := by
  have hH := h.1
  have hJ := hH.2.2.2.2.2.1
  obtain ⟨b, F', hM2, hop⟩ := op_turn hG h hn ((gt Γ 4).2.2 (5 * n + 1))
  refine G_aload_n (pc := 1584) dL_law_1584 rfl ?_
  refine G_aload_n (pc := 1585) dL_law_1585 rfl ?_
  refine G_iload (pc := 1586) dL_law_1586 rfl ?_
  refine G_iconst (pc := 1588) (v := nI 1) dL_law_1588 (by first | rfl | decide) ?_
  refine G_iaddN (pc := 1589) dL_law_1589 ?_
  refine G_sald (pc := 1590) (i := 4) (j := _) (by decide) rfl (by first | omega | decide) (by omega) dL_law_1590 ?_
  refine G_aload_n (pc := 1591) dL_law_1591 rfl ?_
  refine K_LW (pc := 1592) (k' := (k.1 + 12, k.2 + 100)) (as := [.ref 800000, .int ((gt Γ 4).2.2 (5 * n + 1)), .ref 1990000]) (rest := []) mok_L_turn lk_L_205 (rmB_le (a := 10100) (b := 100200) rfl (by omega) (by omega)) rfl rfl (aos0 rfl) dL_law_1592 (W_turn hH hop) rfl ?_
  rintro v Y1 ⟨i9, hi9, rfl, e25, nx, ey⟩
  have hS := (SH_nx nx).2.2.2.2.1
  have hJ2 := (SH_nx nx).2.2.2.2.2
  have eW : wM Y1 F = Y1 := by rw [← hF, ← nx.1]; exact wM_rF Y1
  have hm := hM2 Y1 hS
  rw [eW] at hm
  show G _ _ _ _ _ _ _ [.int (nI i9)] _
  refine G_istore (pc := 1595) dL_law_1595 (by decide) ?_
  refine G_aload_n (pc := 1597) dL_law_1597 rfl ?_
  refine G_aload_n (pc := 1598) dL_law_1598 rfl ?_
  refine G_iload (pc := 1599) dL_law_1599 rfl ?_
  refine G_iconst (pc := 1601) (v := nI 1) dL_law_1601 (by first | rfl | decide) ?_
  refine G_iaddN (pc := 1602) dL_law_1602 ?_
  refine G_sald (pc := 1603) (i := 4) (j := _) (by decide) rfl (by first | omega | decide) (by omega) dL_law_1603 ?_
  refine K_Vn1r (pc := 1604) (k' := (k.1 + 12, k.2 + 100)) mok_X10_turn lk_L_207 hS.1 rfl rfl (rmB_le (a := 10100) (b := 100200) rfl (show k.1 + 12 ≤ _ by omega) (show k.2 + 100 ≤ _ by omega)) (aok0 rfl) dL_law_1604 hm rfl ?_
  refine G_istore (pc := 1607) dL_law_1607 (by decide) ?_
  refine G_aload_n (pc := 1609) dL_law_1609 rfl ?_
  refine K_Vn0r (pc := 1610) (k' := (k.1 + 12, k.2 + 100)) mok_X10_thrown lk_L_127 hS.1 rfl rfl (rmB_le (a := 10100) (b := 100200) rfl (show k.1 + 12 ≤ _ by omega) (show k.2 + 100 ≤ _ by omega)) (aok0 rfl) dL_law_1610 (C_thrown hS F') rfl ?_
  refine G_iload (pc := 1613) dL_law_1613 rfl ?_
  refine G_icmp_eq (pc := 1615) (tgt := 1620) dL_law_1615 (by decide) (fun c1615 => ?_) (fun c1615 => ?_)
  · skip
    refine G_iload (pc := 1620) dL_law_1620 rfl ?_
    refine G_if_ne (pc := 1622) (tgt := 1637) dL_law_1622 (by decide) (fun c1622 => ?_) (fun c1622 => ?_)
    · skip
      refine G_goto (pc := 1637) (tgt := 2232) dL_law_1637 (by decide) ?_
      exact G_weak wk7 (next (k.1 + 12, k.2 + 100) (wM Y1 F') _ (Nat.add_le_add_left (by decide) _) (Nat.add_le_add_left (by decide) _) nx.go rfl)
    · skip
      refine G_aload_n (pc := 1625) dL_law_1625 rfl ?_
      refine G_iconst (pc := 1626) (v := nI 0) dL_law_1626 (by first | rfl | decide) ?_
      refine G_lald (pc := 1627) (j := 0) hJ2.1 rfl (show 0 < xn Y1 1990000 by rw [hJ2.2]; decide) (by omega) dL_law_1627 ?_
      refine G_iload (pc := 1628) dL_law_1628 rfl ?_
      refine G_i2l (pc := 1630) dL_law_1630 ?_
      refine G_lcmp (pc := 1631) dL_law_1631 ?_
      refine G_if_eq (pc := 1632) (tgt := 1637) dL_law_1632 (by decide) (fun c1632 => ?_) (fun c1632 => ?_)
      · skip
        refine G_goto (pc := 1637) (tgt := 2232) dL_law_1637 (by decide) ?_
        exact G_weak wk7 (next (k.1 + 12, k.2 + 100) (wM Y1 F') _ (Nat.add_le_add_left (by decide) _) (Nat.add_le_add_left (by decide) _) nx.go rfl)
      · exact absurd (lcmp_eq (show xJ Y1 1990000 0 = _ from ey (nI_z hi9 c1622))) c1632
  · exact absurd e25 c1615
theorem LC_points0 {Γ : GTy} (hG : GS Γ) {W : WTy} {k : Nat × Nat} {n : Nat} {Z : HS} {F A : FT} {g : GN} (h : CI n Z F g A) (hF : rF Z = F) (hn : n < 512) (hL : 5 * n + 5 ≤ (gt Γ 4).2.1) (hL2 : (gt Γ 4).2.1 ≤ 2560) (k1 : k.1 ≤ 10000) (k2 : k.2 ≤ 100000) (hb : (gt Γ 4).2.2 (5 * n + 2) = 0) (next : LN Γ W n k) : G Γ M_L_law room_1 W k 1640 [some (.ref (sid 4)), some (.ref 800000), some (.ref 900000), some (.ref 1990000), some (.int (nI (5 * n))), none, none] [] Z := by
  have hH := h.1
  have hJ := hH.2.2.2.2.2.1
  obtain ⟨b, F', hM2, hop⟩ := op_points hG h hn ((gt Γ 4).2.2 (5 * n + 1)) (nI 0)
  refine G_aload_n (pc := 1640) dL_law_1640 rfl ?_
  refine G_aload_n (pc := 1641) dL_law_1641 rfl ?_
  refine G_iload (pc := 1642) dL_law_1642 rfl ?_
  refine G_iconst (pc := 1644) (v := nI 1) dL_law_1644 (by first | rfl | decide) ?_
  refine G_iaddN (pc := 1645) dL_law_1645 ?_
  refine G_sald (pc := 1646) (i := 4) (j := _) (by decide) rfl (by first | omega | decide) (by omega) dL_law_1646 ?_
  refine G_aload_n (pc := 1647) dL_law_1647 rfl ?_
  refine G_iload (pc := 1648) dL_law_1648 rfl ?_
  refine G_iconst (pc := 1650) (v := nI 2) dL_law_1650 (by first | rfl | decide) ?_
  refine G_iaddN (pc := 1651) dL_law_1651 ?_
  refine G_sald (pc := 1652) (i := 4) (j := _) (by decide) rfl (by first | omega | decide) (by omega) dL_law_1652 ?_
  refine G_if_eq (pc := 1653) (tgt := 1660) dL_law_1653 (by decide) (fun c1653 => ?_) (fun c1653 => ?_)
  · skip
    refine G_iconst (pc := 1660) (v := nI 0) dL_law_1660 (by first | rfl | decide) ?_
    refine G_aload_n (pc := 1661) dL_law_1661 rfl ?_
    refine K_LW (pc := 1662) (k' := (k.1 + 12, k.2 + 100)) (as := [.ref 800000, .int ((gt Γ 4).2.2 (5 * n + 1)), .int (nI 0), .ref 1990000]) (rest := []) mok_L_points lk_L_208 (rmB_le (a := 10100) (b := 100200) rfl (by omega) (by omega)) rfl rfl (aos0 rfl) dL_law_1662 (W_points hH hop) rfl ?_
    rintro v Y1 ⟨i9, hi9, rfl, e25, nx, ey⟩
    have hS := (SH_nx nx).2.2.2.2.1
    have hJ2 := (SH_nx nx).2.2.2.2.2
    have eW : wM Y1 F = Y1 := by rw [← hF, ← nx.1]; exact wM_rF Y1
    have hm := hM2 Y1 hS
    rw [eW] at hm
    show G _ _ _ _ _ _ _ [.int (nI i9)] _
    refine G_istore (pc := 1665) dL_law_1665 (by decide) ?_
    refine G_aload_n (pc := 1667) dL_law_1667 rfl ?_
    refine G_aload_n (pc := 1668) dL_law_1668 rfl ?_
    refine G_iload (pc := 1669) dL_law_1669 rfl ?_
    refine G_iconst (pc := 1671) (v := nI 1) dL_law_1671 (by first | rfl | decide) ?_
    refine G_iaddN (pc := 1672) dL_law_1672 ?_
    refine G_sald (pc := 1673) (i := 4) (j := _) (by decide) rfl (by first | omega | decide) (by omega) dL_law_1673 ?_
    refine G_aload_n (pc := 1674) dL_law_1674 rfl ?_
    refine G_iload (pc := 1675) dL_law_1675 rfl ?_
    refine G_iconst (pc := 1677) (v := nI 2) dL_law_1677 (by first | rfl | decide) ?_
    refine G_iaddN (pc := 1678) dL_law_1678 ?_
    refine G_sald (pc := 1679) (i := 4) (j := _) (by decide) rfl (by first | omega | decide) (by omega) dL_law_1679 ?_
    refine G_if_eq (pc := 1680) (tgt := 1687) dL_law_1680 (by decide) (fun c1680 => ?_) (fun c1680 => ?_)
    · skip
      refine G_iconst (pc := 1687) (v := nI 0) dL_law_1687 (by first | rfl | decide) ?_
      refine K_Vn2r (pc := 1688) (k' := (k.1 + 12, k.2 + 100)) mok_X10_points lk_L_211 hS.1 rfl rfl (rmB_le (a := 10100) (b := 100200) rfl (show k.1 + 12 ≤ _ by omega) (show k.2 + 100 ≤ _ by omega)) (aok0 rfl) dL_law_1688 hm rfl ?_
      refine G_istore (pc := 1691) dL_law_1691 (by decide) ?_
      refine G_aload_n (pc := 1693) dL_law_1693 rfl ?_
      refine K_Vn0r (pc := 1694) (k' := (k.1 + 12, k.2 + 100)) mok_X10_thrown lk_L_127 hS.1 rfl rfl (rmB_le (a := 10100) (b := 100200) rfl (show k.1 + 12 ≤ _ by omega) (show k.2 + 100 ≤ _ by omega)) (aok0 rfl) dL_law_1694 (C_thrown hS F') rfl ?_
      refine G_iload (pc := 1697) dL_law_1697 rfl ?_
      refine G_icmp_eq (pc := 1699) (tgt := 1704) dL_law_1699 (by decide) (fun c1699 => ?_) (fun c1699 => ?_)
      · skip
        refine G_iload (pc := 1704) dL_law_1704 rfl ?_
        refine G_if_ne (pc := 1706) (tgt := 1721) dL_law_1706 (by decide) (fun c1706 => ?_) (fun c1706 => ?_)
        · skip
          refine G_goto (pc := 1721) (tgt := 2232) dL_law_1721 (by decide) ?_
          exact G_weak wk7 (next (k.1 + 12, k.2 + 100) (wM Y1 F') _ (Nat.add_le_add_left (by decide) _) (Nat.add_le_add_left (by decide) _) nx.go rfl)
        · skip
          refine G_aload_n (pc := 1709) dL_law_1709 rfl ?_
          refine G_iconst (pc := 1710) (v := nI 0) dL_law_1710 (by first | rfl | decide) ?_
          refine G_lald (pc := 1711) (j := 0) hJ2.1 rfl (show 0 < xn Y1 1990000 by rw [hJ2.2]; decide) (by omega) dL_law_1711 ?_
          refine G_iload (pc := 1712) dL_law_1712 rfl ?_
          refine G_i2l (pc := 1714) dL_law_1714 ?_
          refine G_lcmp (pc := 1715) dL_law_1715 ?_
          refine G_if_eq (pc := 1716) (tgt := 1721) dL_law_1716 (by decide) (fun c1716 => ?_) (fun c1716 => ?_)
          · skip
            refine G_goto (pc := 1721) (tgt := 2232) dL_law_1721 (by decide) ?_
            exact G_weak wk7 (next (k.1 + 12, k.2 + 100) (wM Y1 F') _ (Nat.add_le_add_left (by decide) _) (Nat.add_le_add_left (by decide) _) nx.go rfl)
          · exact absurd (lcmp_eq (show xJ Y1 1990000 0 = _ from ey (nI_z hi9 c1706))) c1716
      · exact absurd e25 c1699
    · exact absurd hb c1680
  · exact absurd hb c1653
theorem LC_points1 {Γ : GTy} (hG : GS Γ) {W : WTy} {k : Nat × Nat} {n : Nat} {Z : HS} {F A : FT} {g : GN} (h : CI n Z F g A) (hF : rF Z = F) (hn : n < 512) (hL : 5 * n + 5 ≤ (gt Γ 4).2.1) (hL2 : (gt Γ 4).2.1 ≤ 2560) (k1 : k.1 ≤ 10000) (k2 : k.2 ≤ 100000) (hb : ¬ (gt Γ 4).2.2 (5 * n + 2) = 0) (next : LN Γ W n k) : G Γ M_L_law room_1 W k 1640 [some (.ref (sid 4)), some (.ref 800000), some (.ref 900000), some (.ref 1990000), some (.int (nI (5 * n))), none, none] [] Z := by
  have hH := h.1
  have hJ := hH.2.2.2.2.2.1
  obtain ⟨b, F', hM2, hop⟩ := op_points hG h hn ((gt Γ 4).2.2 (5 * n + 1)) (nI 1)
  refine G_aload_n (pc := 1640) dL_law_1640 rfl ?_
  refine G_aload_n (pc := 1641) dL_law_1641 rfl ?_
  refine G_iload (pc := 1642) dL_law_1642 rfl ?_
  refine G_iconst (pc := 1644) (v := nI 1) dL_law_1644 (by first | rfl | decide) ?_
  refine G_iaddN (pc := 1645) dL_law_1645 ?_
  refine G_sald (pc := 1646) (i := 4) (j := _) (by decide) rfl (by first | omega | decide) (by omega) dL_law_1646 ?_
  refine G_aload_n (pc := 1647) dL_law_1647 rfl ?_
  refine G_iload (pc := 1648) dL_law_1648 rfl ?_
  refine G_iconst (pc := 1650) (v := nI 2) dL_law_1650 (by first | rfl | decide) ?_
  refine G_iaddN (pc := 1651) dL_law_1651 ?_
  refine G_sald (pc := 1652) (i := 4) (j := _) (by decide) rfl (by first | omega | decide) (by omega) dL_law_1652 ?_
  refine G_if_eq (pc := 1653) (tgt := 1660) dL_law_1653 (by decide) (fun c1653 => ?_) (fun c1653 => ?_)
  · exact absurd c1653 hb
  · skip
    refine G_iconst (pc := 1656) (v := nI 1) dL_law_1656 (by first | rfl | decide) ?_
    refine G_goto (pc := 1657) (tgt := 1661) dL_law_1657 (by decide) ?_
    refine G_aload_n (pc := 1661) dL_law_1661 rfl ?_
    refine K_LW (pc := 1662) (k' := (k.1 + 12, k.2 + 100)) (as := [.ref 800000, .int ((gt Γ 4).2.2 (5 * n + 1)), .int (nI 1), .ref 1990000]) (rest := []) mok_L_points lk_L_208 (rmB_le (a := 10100) (b := 100200) rfl (by omega) (by omega)) rfl rfl (aos0 rfl) dL_law_1662 (W_points hH hop) rfl ?_
    rintro v Y1 ⟨i9, hi9, rfl, e25, nx, ey⟩
    have hS := (SH_nx nx).2.2.2.2.1
    have hJ2 := (SH_nx nx).2.2.2.2.2
    have eW : wM Y1 F = Y1 := by rw [← hF, ← nx.1]; exact wM_rF Y1
    have hm := hM2 Y1 hS
    rw [eW] at hm
    show G _ _ _ _ _ _ _ [.int (nI i9)] _
    refine G_istore (pc := 1665) dL_law_1665 (by decide) ?_
    refine G_aload_n (pc := 1667) dL_law_1667 rfl ?_
    refine G_aload_n (pc := 1668) dL_law_1668 rfl ?_
    refine G_iload (pc := 1669) dL_law_1669 rfl ?_
    refine G_iconst (pc := 1671) (v := nI 1) dL_law_1671 (by first | rfl | decide) ?_
    refine G_iaddN (pc := 1672) dL_law_1672 ?_
    refine G_sald (pc := 1673) (i := 4) (j := _) (by decide) rfl (by first | omega | decide) (by omega) dL_law_1673 ?_
    refine G_aload_n (pc := 1674) dL_law_1674 rfl ?_
    refine G_iload (pc := 1675) dL_law_1675 rfl ?_
    refine G_iconst (pc := 1677) (v := nI 2) dL_law_1677 (by first | rfl | decide) ?_
    refine G_iaddN (pc := 1678) dL_law_1678 ?_
    refine G_sald (pc := 1679) (i := 4) (j := _) (by decide) rfl (by first | omega | decide) (by omega) dL_law_1679 ?_
    refine G_if_eq (pc := 1680) (tgt := 1687) dL_law_1680 (by decide) (fun c1680 => ?_) (fun c1680 => ?_)
    · exact absurd c1680 hb
    · skip
      refine G_iconst (pc := 1683) (v := nI 1) dL_law_1683 (by first | rfl | decide) ?_
      refine G_goto (pc := 1684) (tgt := 1688) dL_law_1684 (by decide) ?_
      refine K_Vn2r (pc := 1688) (k' := (k.1 + 12, k.2 + 100)) mok_X10_points lk_L_211 hS.1 rfl rfl (rmB_le (a := 10100) (b := 100200) rfl (show k.1 + 12 ≤ _ by omega) (show k.2 + 100 ≤ _ by omega)) (aok0 rfl) dL_law_1688 hm rfl ?_
      refine G_istore (pc := 1691) dL_law_1691 (by decide) ?_
      refine G_aload_n (pc := 1693) dL_law_1693 rfl ?_
      refine K_Vn0r (pc := 1694) (k' := (k.1 + 12, k.2 + 100)) mok_X10_thrown lk_L_127 hS.1 rfl rfl (rmB_le (a := 10100) (b := 100200) rfl (show k.1 + 12 ≤ _ by omega) (show k.2 + 100 ≤ _ by omega)) (aok0 rfl) dL_law_1694 (C_thrown hS F') rfl ?_
      refine G_iload (pc := 1697) dL_law_1697 rfl ?_
      refine G_icmp_eq (pc := 1699) (tgt := 1704) dL_law_1699 (by decide) (fun c1699 => ?_) (fun c1699 => ?_)
      · skip
        refine G_iload (pc := 1704) dL_law_1704 rfl ?_
        refine G_if_ne (pc := 1706) (tgt := 1721) dL_law_1706 (by decide) (fun c1706 => ?_) (fun c1706 => ?_)
        · skip
          refine G_goto (pc := 1721) (tgt := 2232) dL_law_1721 (by decide) ?_
          exact G_weak wk7 (next (k.1 + 12, k.2 + 100) (wM Y1 F') _ (Nat.add_le_add_left (by decide) _) (Nat.add_le_add_left (by decide) _) nx.go rfl)
        · skip
          refine G_aload_n (pc := 1709) dL_law_1709 rfl ?_
          refine G_iconst (pc := 1710) (v := nI 0) dL_law_1710 (by first | rfl | decide) ?_
          refine G_lald (pc := 1711) (j := 0) hJ2.1 rfl (show 0 < xn Y1 1990000 by rw [hJ2.2]; decide) (by omega) dL_law_1711 ?_
          refine G_iload (pc := 1712) dL_law_1712 rfl ?_
          refine G_i2l (pc := 1714) dL_law_1714 ?_
          refine G_lcmp (pc := 1715) dL_law_1715 ?_
          refine G_if_eq (pc := 1716) (tgt := 1721) dL_law_1716 (by decide) (fun c1716 => ?_) (fun c1716 => ?_)
          · skip
            refine G_goto (pc := 1721) (tgt := 2232) dL_law_1721 (by decide) ?_
            exact G_weak wk7 (next (k.1 + 12, k.2 + 100) (wM Y1 F') _ (Nat.add_le_add_left (by decide) _) (Nat.add_le_add_left (by decide) _) nx.go rfl)
          · exact absurd (lcmp_eq (show xJ Y1 1990000 0 = _ from ey (nI_z hi9 c1706))) c1716
      · exact absurd e25 c1699
theorem LC_winner {Γ : GTy} (hG : GS Γ) {W : WTy} {k : Nat × Nat} {n : Nat} {Z : HS} {F A : FT} {g : GN} (h : CI n Z F g A) (hF : rF Z = F) (hn : n < 512) (hL : 5 * n + 5 ≤ (gt Γ 4).2.1) (hL2 : (gt Γ 4).2.1 ≤ 2560) (k1 : k.1 ≤ 10000) (k2 : k.2 ≤ 100000) (next : LN Γ W n k) : G Γ M_L_law room_1 W k 1724 [some (.ref (sid 4)), some (.ref 800000), some (.ref 900000), some (.ref 1990000), some (.int (nI (5 * n))), none, none] [] Z := by
  have hH := h.1
  have hJ := hH.2.2.2.2.2.1
  obtain ⟨b, F', hM2, hop⟩ := op_winner hG h hn ((gt Γ 4).2.2 (5 * n + 1))
  refine G_aload_n (pc := 1724) dL_law_1724 rfl ?_
  refine G_aload_n (pc := 1725) dL_law_1725 rfl ?_
  refine G_iload (pc := 1726) dL_law_1726 rfl ?_
  refine G_iconst (pc := 1728) (v := nI 1) dL_law_1728 (by first | rfl | decide) ?_
  refine G_iaddN (pc := 1729) dL_law_1729 ?_
  refine G_sald (pc := 1730) (i := 4) (j := _) (by decide) rfl (by first | omega | decide) (by omega) dL_law_1730 ?_
  refine G_aload_n (pc := 1731) dL_law_1731 rfl ?_
  refine K_LW (pc := 1732) (k' := (k.1 + 12, k.2 + 100)) (as := [.ref 800000, .int ((gt Γ 4).2.2 (5 * n + 1)), .ref 1990000]) (rest := []) mok_L_winner lk_L_212 (rmB_le (a := 10100) (b := 100200) rfl (by omega) (by omega)) rfl rfl (aos0 rfl) dL_law_1732 (W_winner hH hop) rfl ?_
  rintro v Y1 ⟨i9, hi9, rfl, e25, nx, ey⟩
  have hS := (SH_nx nx).2.2.2.2.1
  have hJ2 := (SH_nx nx).2.2.2.2.2
  have eW : wM Y1 F = Y1 := by rw [← hF, ← nx.1]; exact wM_rF Y1
  have hm := hM2 Y1 hS
  rw [eW] at hm
  show G _ _ _ _ _ _ _ [.int (nI i9)] _
  refine G_istore (pc := 1735) dL_law_1735 (by decide) ?_
  refine G_aload_n (pc := 1737) dL_law_1737 rfl ?_
  refine G_aload_n (pc := 1738) dL_law_1738 rfl ?_
  refine G_iload (pc := 1739) dL_law_1739 rfl ?_
  refine G_iconst (pc := 1741) (v := nI 1) dL_law_1741 (by first | rfl | decide) ?_
  refine G_iaddN (pc := 1742) dL_law_1742 ?_
  refine G_sald (pc := 1743) (i := 4) (j := _) (by decide) rfl (by first | omega | decide) (by omega) dL_law_1743 ?_
  refine K_Vn1r (pc := 1744) (k' := (k.1 + 12, k.2 + 100)) mok_X10_winner lk_L_214 hS.1 rfl rfl (rmB_le (a := 10100) (b := 100200) rfl (show k.1 + 12 ≤ _ by omega) (show k.2 + 100 ≤ _ by omega)) (aok0 rfl) dL_law_1744 hm rfl ?_
  refine G_istore (pc := 1747) dL_law_1747 (by decide) ?_
  refine G_aload_n (pc := 1749) dL_law_1749 rfl ?_
  refine K_Vn0r (pc := 1750) (k' := (k.1 + 12, k.2 + 100)) mok_X10_thrown lk_L_127 hS.1 rfl rfl (rmB_le (a := 10100) (b := 100200) rfl (show k.1 + 12 ≤ _ by omega) (show k.2 + 100 ≤ _ by omega)) (aok0 rfl) dL_law_1750 (C_thrown hS F') rfl ?_
  refine G_iload (pc := 1753) dL_law_1753 rfl ?_
  refine G_icmp_eq (pc := 1755) (tgt := 1760) dL_law_1755 (by decide) (fun c1755 => ?_) (fun c1755 => ?_)
  · skip
    refine G_iload (pc := 1760) dL_law_1760 rfl ?_
    refine G_if_ne (pc := 1762) (tgt := 1777) dL_law_1762 (by decide) (fun c1762 => ?_) (fun c1762 => ?_)
    · skip
      refine G_goto (pc := 1777) (tgt := 2232) dL_law_1777 (by decide) ?_
      exact G_weak wk7 (next (k.1 + 12, k.2 + 100) (wM Y1 F') _ (Nat.add_le_add_left (by decide) _) (Nat.add_le_add_left (by decide) _) nx.go rfl)
    · skip
      refine G_aload_n (pc := 1765) dL_law_1765 rfl ?_
      refine G_iconst (pc := 1766) (v := nI 0) dL_law_1766 (by first | rfl | decide) ?_
      refine G_lald (pc := 1767) (j := 0) hJ2.1 rfl (show 0 < xn Y1 1990000 by rw [hJ2.2]; decide) (by omega) dL_law_1767 ?_
      refine G_iload (pc := 1768) dL_law_1768 rfl ?_
      refine G_i2l (pc := 1770) dL_law_1770 ?_
      refine G_lcmp (pc := 1771) dL_law_1771 ?_
      refine G_if_eq (pc := 1772) (tgt := 1777) dL_law_1772 (by decide) (fun c1772 => ?_) (fun c1772 => ?_)
      · skip
        refine G_goto (pc := 1777) (tgt := 2232) dL_law_1777 (by decide) ?_
        exact G_weak wk7 (next (k.1 + 12, k.2 + 100) (wM Y1 F') _ (Nat.add_le_add_left (by decide) _) (Nat.add_le_add_left (by decide) _) nx.go rfl)
      · exact absurd (lcmp_eq (show xJ Y1 1990000 0 = _ from ey (nI_z hi9 c1762))) c1772
  · exact absurd e25 c1755
theorem LC_contacts {Γ : GTy} (hG : GS Γ) {W : WTy} {k : Nat × Nat} {n : Nat} {Z : HS} {F A : FT} {g : GN} (h : CI n Z F g A) (hF : rF Z = F) (hn : n < 512) (hL : 5 * n + 5 ≤ (gt Γ 4).2.1) (hL2 : (gt Γ 4).2.1 ≤ 2560) (k1 : k.1 ≤ 10000) (k2 : k.2 ≤ 100000) (next : LN Γ W n k) : G Γ M_L_law room_1 W k 1780 [some (.ref (sid 4)), some (.ref 800000), some (.ref 900000), some (.ref 1990000), some (.int (nI (5 * n))), none, none] [] Z := by
  have hH := h.1
  have hJ := hH.2.2.2.2.2.1
  obtain ⟨b, F', hM2, hop⟩ := op_contacts hG h hn ((gt Γ 4).2.2 (5 * n + 1)) ((gt Γ 4).2.2 (5 * n + 2)) ((gt Γ 4).2.2 (5 * n + 3))
  refine G_aload_n (pc := 1780) dL_law_1780 rfl ?_
  refine G_aload_n (pc := 1781) dL_law_1781 rfl ?_
  refine G_iload (pc := 1782) dL_law_1782 rfl ?_
  refine G_iconst (pc := 1784) (v := nI 1) dL_law_1784 (by first | rfl | decide) ?_
  refine G_iaddN (pc := 1785) dL_law_1785 ?_
  refine G_sald (pc := 1786) (i := 4) (j := _) (by decide) rfl (by first | omega | decide) (by omega) dL_law_1786 ?_
  refine G_aload_n (pc := 1787) dL_law_1787 rfl ?_
  refine G_iload (pc := 1788) dL_law_1788 rfl ?_
  refine G_iconst (pc := 1790) (v := nI 2) dL_law_1790 (by first | rfl | decide) ?_
  refine G_iaddN (pc := 1791) dL_law_1791 ?_
  refine G_sald (pc := 1792) (i := 4) (j := _) (by decide) rfl (by first | omega | decide) (by omega) dL_law_1792 ?_
  refine G_aload_n (pc := 1793) dL_law_1793 rfl ?_
  refine G_iload (pc := 1794) dL_law_1794 rfl ?_
  refine G_iconst (pc := 1796) (v := nI 3) dL_law_1796 (by first | rfl | decide) ?_
  refine G_iaddN (pc := 1797) dL_law_1797 ?_
  refine G_sald (pc := 1798) (i := 4) (j := _) (by decide) rfl (by first | omega | decide) (by omega) dL_law_1798 ?_
  refine G_aload_n (pc := 1799) dL_law_1799 rfl ?_
  refine K_LW (pc := 1800) (k' := (k.1 + 12, k.2 + 100)) (as := [.ref 800000, .int ((gt Γ 4).2.2 (5 * n + 1)), .int ((gt Γ 4).2.2 (5 * n + 2)), .int ((gt Γ 4).2.2 (5 * n + 3)), .ref 1990000]) (rest := []) mok_L_contacts lk_L_215 (rmB_le (a := 10100) (b := 100200) rfl (by omega) (by omega)) rfl rfl (aos0 rfl) dL_law_1800 (W_contacts hH hop) rfl ?_
  rintro v Y1 ⟨i9, hi9, rfl, e25, nx, ey⟩
  have hS := (SH_nx nx).2.2.2.2.1
  have hJ2 := (SH_nx nx).2.2.2.2.2
  have eW : wM Y1 F = Y1 := by rw [← hF, ← nx.1]; exact wM_rF Y1
  have hm := hM2 Y1 hS
  rw [eW] at hm
  show G _ _ _ _ _ _ _ [.int (nI i9)] _
  refine G_istore (pc := 1803) dL_law_1803 (by decide) ?_
  refine G_aload_n (pc := 1805) dL_law_1805 rfl ?_
  refine G_aload_n (pc := 1806) dL_law_1806 rfl ?_
  refine G_iload (pc := 1807) dL_law_1807 rfl ?_
  refine G_iconst (pc := 1809) (v := nI 1) dL_law_1809 (by first | rfl | decide) ?_
  refine G_iaddN (pc := 1810) dL_law_1810 ?_
  refine G_sald (pc := 1811) (i := 4) (j := _) (by decide) rfl (by first | omega | decide) (by omega) dL_law_1811 ?_
  refine G_aload_n (pc := 1812) dL_law_1812 rfl ?_
  refine G_iload (pc := 1813) dL_law_1813 rfl ?_
  refine G_iconst (pc := 1815) (v := nI 2) dL_law_1815 (by first | rfl | decide) ?_
  refine G_iaddN (pc := 1816) dL_law_1816 ?_
  refine G_sald (pc := 1817) (i := 4) (j := _) (by decide) rfl (by first | omega | decide) (by omega) dL_law_1817 ?_
  refine G_aload_n (pc := 1818) dL_law_1818 rfl ?_
  refine G_iload (pc := 1819) dL_law_1819 rfl ?_
  refine G_iconst (pc := 1821) (v := nI 3) dL_law_1821 (by first | rfl | decide) ?_
  refine G_iaddN (pc := 1822) dL_law_1822 ?_
  refine G_sald (pc := 1823) (i := 4) (j := _) (by decide) rfl (by first | omega | decide) (by omega) dL_law_1823 ?_
  refine K_Vn3r (pc := 1824) (k' := (k.1 + 12, k.2 + 100)) mok_X10_contacts lk_L_217 hS.1 rfl rfl (rmB_le (a := 10100) (b := 100200) rfl (show k.1 + 12 ≤ _ by omega) (show k.2 + 100 ≤ _ by omega)) (aok0 rfl) dL_law_1824 hm rfl ?_
  refine G_istore (pc := 1827) dL_law_1827 (by decide) ?_
  refine G_aload_n (pc := 1829) dL_law_1829 rfl ?_
  refine K_Vn0r (pc := 1830) (k' := (k.1 + 12, k.2 + 100)) mok_X10_thrown lk_L_127 hS.1 rfl rfl (rmB_le (a := 10100) (b := 100200) rfl (show k.1 + 12 ≤ _ by omega) (show k.2 + 100 ≤ _ by omega)) (aok0 rfl) dL_law_1830 (C_thrown hS F') rfl ?_
  refine G_iload (pc := 1833) dL_law_1833 rfl ?_
  refine G_icmp_eq (pc := 1835) (tgt := 1840) dL_law_1835 (by decide) (fun c1835 => ?_) (fun c1835 => ?_)
  · skip
    refine G_iload (pc := 1840) dL_law_1840 rfl ?_
    refine G_if_ne (pc := 1842) (tgt := 1857) dL_law_1842 (by decide) (fun c1842 => ?_) (fun c1842 => ?_)
    · skip
      refine G_goto (pc := 1857) (tgt := 2232) dL_law_1857 (by decide) ?_
      exact G_weak wk7 (next (k.1 + 12, k.2 + 100) (wM Y1 F') _ (Nat.add_le_add_left (by decide) _) (Nat.add_le_add_left (by decide) _) nx.go rfl)
    · skip
      refine G_aload_n (pc := 1845) dL_law_1845 rfl ?_
      refine G_iconst (pc := 1846) (v := nI 0) dL_law_1846 (by first | rfl | decide) ?_
      refine G_lald (pc := 1847) (j := 0) hJ2.1 rfl (show 0 < xn Y1 1990000 by rw [hJ2.2]; decide) (by omega) dL_law_1847 ?_
      refine G_iload (pc := 1848) dL_law_1848 rfl ?_
      refine G_i2l (pc := 1850) dL_law_1850 ?_
      refine G_lcmp (pc := 1851) dL_law_1851 ?_
      refine G_if_eq (pc := 1852) (tgt := 1857) dL_law_1852 (by decide) (fun c1852 => ?_) (fun c1852 => ?_)
      · skip
        refine G_goto (pc := 1857) (tgt := 2232) dL_law_1857 (by decide) ?_
        exact G_weak wk7 (next (k.1 + 12, k.2 + 100) (wM Y1 F') _ (Nat.add_le_add_left (by decide) _) (Nat.add_le_add_left (by decide) _) nx.go rfl)
      · exact absurd (lcmp_eq (show xJ Y1 1990000 0 = _ from ey (nI_z hi9 c1842))) c1852
  · exact absurd e25 c1835
theorem LC_contactsByPairs {Γ : GTy} (hG : GS Γ) {W : WTy} {k : Nat × Nat} {n : Nat} {Z : HS} {F A : FT} {g : GN} (h : CI n Z F g A) (hF : rF Z = F) (hn : n < 512) (hL : 5 * n + 5 ≤ (gt Γ 4).2.1) (hL2 : (gt Γ 4).2.1 ≤ 2560) (k1 : k.1 ≤ 10000) (k2 : k.2 ≤ 100000) (next : LN Γ W n k) : G Γ M_L_law room_1 W k 1860 [some (.ref (sid 4)), some (.ref 800000), some (.ref 900000), some (.ref 1990000), some (.int (nI (5 * n))), none, none] [] Z := by
  have hH := h.1
  have hJ := hH.2.2.2.2.2.1
  obtain ⟨b, F', hM2, hop⟩ := op_contactsByPairs hG h hn ((gt Γ 4).2.2 (5 * n + 1)) ((gt Γ 4).2.2 (5 * n + 2)) ((gt Γ 4).2.2 (5 * n + 3))
  refine G_aload_n (pc := 1860) dL_law_1860 rfl ?_
  refine G_aload_n (pc := 1861) dL_law_1861 rfl ?_
  refine G_iload (pc := 1862) dL_law_1862 rfl ?_
  refine G_iconst (pc := 1864) (v := nI 1) dL_law_1864 (by first | rfl | decide) ?_
  refine G_iaddN (pc := 1865) dL_law_1865 ?_
  refine G_sald (pc := 1866) (i := 4) (j := _) (by decide) rfl (by first | omega | decide) (by omega) dL_law_1866 ?_
  refine G_aload_n (pc := 1867) dL_law_1867 rfl ?_
  refine G_iload (pc := 1868) dL_law_1868 rfl ?_
  refine G_iconst (pc := 1870) (v := nI 2) dL_law_1870 (by first | rfl | decide) ?_
  refine G_iaddN (pc := 1871) dL_law_1871 ?_
  refine G_sald (pc := 1872) (i := 4) (j := _) (by decide) rfl (by first | omega | decide) (by omega) dL_law_1872 ?_
  refine G_aload_n (pc := 1873) dL_law_1873 rfl ?_
  refine G_iload (pc := 1874) dL_law_1874 rfl ?_
  refine G_iconst (pc := 1876) (v := nI 3) dL_law_1876 (by first | rfl | decide) ?_
  refine G_iaddN (pc := 1877) dL_law_1877 ?_
  refine G_sald (pc := 1878) (i := 4) (j := _) (by decide) rfl (by first | omega | decide) (by omega) dL_law_1878 ?_
  refine G_aload_n (pc := 1879) dL_law_1879 rfl ?_
  refine K_LW (pc := 1880) (k' := (k.1 + 12, k.2 + 100)) (as := [.ref 800000, .int ((gt Γ 4).2.2 (5 * n + 1)), .int ((gt Γ 4).2.2 (5 * n + 2)), .int ((gt Γ 4).2.2 (5 * n + 3)), .ref 1990000]) (rest := []) mok_L_contactsByPairs lk_L_218 (rmB_le (a := 10100) (b := 100200) rfl (by omega) (by omega)) rfl rfl (aos0 rfl) dL_law_1880 (W_contactsByPairs hH hop) rfl ?_
  rintro v Y1 ⟨i9, hi9, rfl, e25, nx, ey⟩
  have hS := (SH_nx nx).2.2.2.2.1
  have hJ2 := (SH_nx nx).2.2.2.2.2
  have eW : wM Y1 F = Y1 := by rw [← hF, ← nx.1]; exact wM_rF Y1
  have hm := hM2 Y1 hS
  rw [eW] at hm
  show G _ _ _ _ _ _ _ [.int (nI i9)] _
  refine G_istore (pc := 1883) dL_law_1883 (by decide) ?_
  refine G_aload_n (pc := 1885) dL_law_1885 rfl ?_
  refine G_aload_n (pc := 1886) dL_law_1886 rfl ?_
  refine G_iload (pc := 1887) dL_law_1887 rfl ?_
  refine G_iconst (pc := 1889) (v := nI 1) dL_law_1889 (by first | rfl | decide) ?_
  refine G_iaddN (pc := 1890) dL_law_1890 ?_
  refine G_sald (pc := 1891) (i := 4) (j := _) (by decide) rfl (by first | omega | decide) (by omega) dL_law_1891 ?_
  refine G_aload_n (pc := 1892) dL_law_1892 rfl ?_
  refine G_iload (pc := 1893) dL_law_1893 rfl ?_
  refine G_iconst (pc := 1895) (v := nI 2) dL_law_1895 (by first | rfl | decide) ?_
  refine G_iaddN (pc := 1896) dL_law_1896 ?_
  refine G_sald (pc := 1897) (i := 4) (j := _) (by decide) rfl (by first | omega | decide) (by omega) dL_law_1897 ?_
  refine G_aload_n (pc := 1898) dL_law_1898 rfl ?_
  refine G_iload (pc := 1899) dL_law_1899 rfl ?_
  refine G_iconst (pc := 1901) (v := nI 3) dL_law_1901 (by first | rfl | decide) ?_
  refine G_iaddN (pc := 1902) dL_law_1902 ?_
  refine G_sald (pc := 1903) (i := 4) (j := _) (by decide) rfl (by first | omega | decide) (by omega) dL_law_1903 ?_
  refine K_Vn3r (pc := 1904) (k' := (k.1 + 12, k.2 + 100)) mok_X10_contactsByPairs lk_L_220 hS.1 rfl rfl (rmB_le (a := 10100) (b := 100200) rfl (show k.1 + 12 ≤ _ by omega) (show k.2 + 100 ≤ _ by omega)) (aok0 rfl) dL_law_1904 hm rfl ?_
  refine G_istore (pc := 1907) dL_law_1907 (by decide) ?_
  refine G_aload_n (pc := 1909) dL_law_1909 rfl ?_
  refine K_Vn0r (pc := 1910) (k' := (k.1 + 12, k.2 + 100)) mok_X10_thrown lk_L_127 hS.1 rfl rfl (rmB_le (a := 10100) (b := 100200) rfl (show k.1 + 12 ≤ _ by omega) (show k.2 + 100 ≤ _ by omega)) (aok0 rfl) dL_law_1910 (C_thrown hS F') rfl ?_
  refine G_iload (pc := 1913) dL_law_1913 rfl ?_
  refine G_icmp_eq (pc := 1915) (tgt := 1920) dL_law_1915 (by decide) (fun c1915 => ?_) (fun c1915 => ?_)
  · skip
    refine G_iload (pc := 1920) dL_law_1920 rfl ?_
    refine G_if_ne (pc := 1922) (tgt := 1937) dL_law_1922 (by decide) (fun c1922 => ?_) (fun c1922 => ?_)
    · skip
      refine G_goto (pc := 1937) (tgt := 2232) dL_law_1937 (by decide) ?_
      exact G_weak wk7 (next (k.1 + 12, k.2 + 100) (wM Y1 F') _ (Nat.add_le_add_left (by decide) _) (Nat.add_le_add_left (by decide) _) nx.go rfl)
    · skip
      refine G_aload_n (pc := 1925) dL_law_1925 rfl ?_
      refine G_iconst (pc := 1926) (v := nI 0) dL_law_1926 (by first | rfl | decide) ?_
      refine G_lald (pc := 1927) (j := 0) hJ2.1 rfl (show 0 < xn Y1 1990000 by rw [hJ2.2]; decide) (by omega) dL_law_1927 ?_
      refine G_iload (pc := 1928) dL_law_1928 rfl ?_
      refine G_i2l (pc := 1930) dL_law_1930 ?_
      refine G_lcmp (pc := 1931) dL_law_1931 ?_
      refine G_if_eq (pc := 1932) (tgt := 1937) dL_law_1932 (by decide) (fun c1932 => ?_) (fun c1932 => ?_)
      · skip
        refine G_goto (pc := 1937) (tgt := 2232) dL_law_1937 (by decide) ?_
        exact G_weak wk7 (next (k.1 + 12, k.2 + 100) (wM Y1 F') _ (Nat.add_le_add_left (by decide) _) (Nat.add_le_add_left (by decide) _) nx.go rfl)
      · exact absurd (lcmp_eq (show xJ Y1 1990000 0 = _ from ey (nI_z hi9 c1922))) c1932
  · exact absurd e25 c1915
theorem LC_wins {Γ : GTy} (hG : GS Γ) {W : WTy} {k : Nat × Nat} {n : Nat} {Z : HS} {F A : FT} {g : GN} (h : CI n Z F g A) (hF : rF Z = F) (hn : n < 512) (hL : 5 * n + 5 ≤ (gt Γ 4).2.1) (hL2 : (gt Γ 4).2.1 ≤ 2560) (k1 : k.1 ≤ 10000) (k2 : k.2 ≤ 100000) (next : LN Γ W n k) : G Γ M_L_law room_1 W k 1940 [some (.ref (sid 4)), some (.ref 800000), some (.ref 900000), some (.ref 1990000), some (.int (nI (5 * n))), none, none] [] Z := by
  have hH := h.1
  have hJ := hH.2.2.2.2.2.1
  obtain ⟨b, F', hM2, hop⟩ := op_wins hG h hn ((gt Γ 4).2.2 (5 * n + 1))
  refine G_aload_n (pc := 1940) dL_law_1940 rfl ?_
  refine G_aload_n (pc := 1941) dL_law_1941 rfl ?_
  refine G_iload (pc := 1942) dL_law_1942 rfl ?_
  refine G_iconst (pc := 1944) (v := nI 1) dL_law_1944 (by first | rfl | decide) ?_
  refine G_iaddN (pc := 1945) dL_law_1945 ?_
  refine G_sald (pc := 1946) (i := 4) (j := _) (by decide) rfl (by first | omega | decide) (by omega) dL_law_1946 ?_
  refine G_aload_n (pc := 1947) dL_law_1947 rfl ?_
  refine K_LW (pc := 1948) (k' := (k.1 + 12, k.2 + 100)) (as := [.ref 800000, .int ((gt Γ 4).2.2 (5 * n + 1)), .ref 1990000]) (rest := []) mok_L_wins lk_L_221 (rmB_le (a := 10100) (b := 100200) rfl (by omega) (by omega)) rfl rfl (aos0 rfl) dL_law_1948 (W_wins hH hop) rfl ?_
  rintro v Y1 ⟨i9, hi9, rfl, e25, nx, ey⟩
  have hS := (SH_nx nx).2.2.2.2.1
  have hJ2 := (SH_nx nx).2.2.2.2.2
  have eW : wM Y1 F = Y1 := by rw [← hF, ← nx.1]; exact wM_rF Y1
  have hm := hM2 Y1 hS
  rw [eW] at hm
  show G _ _ _ _ _ _ _ [.int (nI i9)] _
  refine G_istore (pc := 1951) dL_law_1951 (by decide) ?_
  refine G_aload_n (pc := 1953) dL_law_1953 rfl ?_
  refine G_aload_n (pc := 1954) dL_law_1954 rfl ?_
  refine G_iload (pc := 1955) dL_law_1955 rfl ?_
  refine G_iconst (pc := 1957) (v := nI 1) dL_law_1957 (by first | rfl | decide) ?_
  refine G_iaddN (pc := 1958) dL_law_1958 ?_
  refine G_sald (pc := 1959) (i := 4) (j := _) (by decide) rfl (by first | omega | decide) (by omega) dL_law_1959 ?_
  refine K_Vn1r (pc := 1960) (k' := (k.1 + 12, k.2 + 100)) mok_X10_wins lk_L_223 hS.1 rfl rfl (rmB_le (a := 10100) (b := 100200) rfl (show k.1 + 12 ≤ _ by omega) (show k.2 + 100 ≤ _ by omega)) (aok0 rfl) dL_law_1960 hm rfl ?_
  refine G_istore (pc := 1963) dL_law_1963 (by decide) ?_
  refine G_aload_n (pc := 1965) dL_law_1965 rfl ?_
  refine K_Vn0r (pc := 1966) (k' := (k.1 + 12, k.2 + 100)) mok_X10_thrown lk_L_127 hS.1 rfl rfl (rmB_le (a := 10100) (b := 100200) rfl (show k.1 + 12 ≤ _ by omega) (show k.2 + 100 ≤ _ by omega)) (aok0 rfl) dL_law_1966 (C_thrown hS F') rfl ?_
  refine G_iload (pc := 1969) dL_law_1969 rfl ?_
  refine G_icmp_eq (pc := 1971) (tgt := 1976) dL_law_1971 (by decide) (fun c1971 => ?_) (fun c1971 => ?_)
  · skip
    refine G_iload (pc := 1976) dL_law_1976 rfl ?_
    refine G_if_ne (pc := 1978) (tgt := 1993) dL_law_1978 (by decide) (fun c1978 => ?_) (fun c1978 => ?_)
    · skip
      refine G_goto (pc := 1993) (tgt := 2232) dL_law_1993 (by decide) ?_
      exact G_weak wk7 (next (k.1 + 12, k.2 + 100) (wM Y1 F') _ (Nat.add_le_add_left (by decide) _) (Nat.add_le_add_left (by decide) _) nx.go rfl)
    · skip
      refine G_aload_n (pc := 1981) dL_law_1981 rfl ?_
      refine G_iconst (pc := 1982) (v := nI 0) dL_law_1982 (by first | rfl | decide) ?_
      refine G_lald (pc := 1983) (j := 0) hJ2.1 rfl (show 0 < xn Y1 1990000 by rw [hJ2.2]; decide) (by omega) dL_law_1983 ?_
      refine G_iload (pc := 1984) dL_law_1984 rfl ?_
      refine G_i2l (pc := 1986) dL_law_1986 ?_
      refine G_lcmp (pc := 1987) dL_law_1987 ?_
      refine G_if_eq (pc := 1988) (tgt := 1993) dL_law_1988 (by decide) (fun c1988 => ?_) (fun c1988 => ?_)
      · skip
        refine G_goto (pc := 1993) (tgt := 2232) dL_law_1993 (by decide) ?_
        exact G_weak wk7 (next (k.1 + 12, k.2 + 100) (wM Y1 F') _ (Nat.add_le_add_left (by decide) _) (Nat.add_le_add_left (by decide) _) nx.go rfl)
      · exact absurd (lcmp_eq (show xJ Y1 1990000 0 = _ from ey (nI_z hi9 c1978))) c1988
  · exact absurd e25 c1971
theorem LC_rank {Γ : GTy} (hG : GS Γ) {W : WTy} {k : Nat × Nat} {n : Nat} {Z : HS} {F A : FT} {g : GN} (h : CI n Z F g A) (hF : rF Z = F) (hn : n < 512) (hL : 5 * n + 5 ≤ (gt Γ 4).2.1) (hL2 : (gt Γ 4).2.1 ≤ 2560) (k1 : k.1 ≤ 10000) (k2 : k.2 ≤ 100000) (next : LN Γ W n k) : G Γ M_L_law room_1 W k 1996 [some (.ref (sid 4)), some (.ref 800000), some (.ref 900000), some (.ref 1990000), some (.int (nI (5 * n))), none, none] [] Z := by
  have hH := h.1
  have hJ := hH.2.2.2.2.2.1
  obtain ⟨b, F', hM2, hop⟩ := op_rank hG h hn ((gt Γ 4).2.2 (5 * n + 1))
  refine G_aload_n (pc := 1996) dL_law_1996 rfl ?_
  refine G_aload_n (pc := 1997) dL_law_1997 rfl ?_
  refine G_iload (pc := 1998) dL_law_1998 rfl ?_
  refine G_iconst (pc := 2000) (v := nI 1) dL_law_2000 (by first | rfl | decide) ?_
  refine G_iaddN (pc := 2001) dL_law_2001 ?_
  refine G_sald (pc := 2002) (i := 4) (j := _) (by decide) rfl (by first | omega | decide) (by omega) dL_law_2002 ?_
  refine G_aload_n (pc := 2003) dL_law_2003 rfl ?_
  refine K_LW (pc := 2004) (k' := (k.1 + 12, k.2 + 100)) (as := [.ref 800000, .int ((gt Γ 4).2.2 (5 * n + 1)), .ref 1990000]) (rest := []) mok_L_rank lk_L_224 (rmB_le (a := 10100) (b := 100200) rfl (by omega) (by omega)) rfl rfl (aos0 rfl) dL_law_2004 (W_rank hH hop) rfl ?_
  rintro v Y1 ⟨i9, hi9, rfl, e25, nx, ey⟩
  have hS := (SH_nx nx).2.2.2.2.1
  have hJ2 := (SH_nx nx).2.2.2.2.2
  have eW : wM Y1 F = Y1 := by rw [← hF, ← nx.1]; exact wM_rF Y1
  have hm := hM2 Y1 hS
  rw [eW] at hm
  show G _ _ _ _ _ _ _ [.int (nI i9)] _
  refine G_istore (pc := 2007) dL_law_2007 (by decide) ?_
  refine G_aload_n (pc := 2009) dL_law_2009 rfl ?_
  refine G_aload_n (pc := 2010) dL_law_2010 rfl ?_
  refine G_iload (pc := 2011) dL_law_2011 rfl ?_
  refine G_iconst (pc := 2013) (v := nI 1) dL_law_2013 (by first | rfl | decide) ?_
  refine G_iaddN (pc := 2014) dL_law_2014 ?_
  refine G_sald (pc := 2015) (i := 4) (j := _) (by decide) rfl (by first | omega | decide) (by omega) dL_law_2015 ?_
  refine K_Vn1r (pc := 2016) (k' := (k.1 + 12, k.2 + 100)) mok_X10_rank lk_L_226 hS.1 rfl rfl (rmB_le (a := 10100) (b := 100200) rfl (show k.1 + 12 ≤ _ by omega) (show k.2 + 100 ≤ _ by omega)) (aok0 rfl) dL_law_2016 hm rfl ?_
  refine G_istore (pc := 2019) dL_law_2019 (by decide) ?_
  refine G_aload_n (pc := 2021) dL_law_2021 rfl ?_
  refine K_Vn0r (pc := 2022) (k' := (k.1 + 12, k.2 + 100)) mok_X10_thrown lk_L_127 hS.1 rfl rfl (rmB_le (a := 10100) (b := 100200) rfl (show k.1 + 12 ≤ _ by omega) (show k.2 + 100 ≤ _ by omega)) (aok0 rfl) dL_law_2022 (C_thrown hS F') rfl ?_
  refine G_iload (pc := 2025) dL_law_2025 rfl ?_
  refine G_icmp_eq (pc := 2027) (tgt := 2032) dL_law_2027 (by decide) (fun c2027 => ?_) (fun c2027 => ?_)
  · skip
    refine G_iload (pc := 2032) dL_law_2032 rfl ?_
    refine G_if_ne (pc := 2034) (tgt := 2049) dL_law_2034 (by decide) (fun c2034 => ?_) (fun c2034 => ?_)
    · skip
      refine G_goto (pc := 2049) (tgt := 2232) dL_law_2049 (by decide) ?_
      exact G_weak wk7 (next (k.1 + 12, k.2 + 100) (wM Y1 F') _ (Nat.add_le_add_left (by decide) _) (Nat.add_le_add_left (by decide) _) nx.go rfl)
    · skip
      refine G_aload_n (pc := 2037) dL_law_2037 rfl ?_
      refine G_iconst (pc := 2038) (v := nI 0) dL_law_2038 (by first | rfl | decide) ?_
      refine G_lald (pc := 2039) (j := 0) hJ2.1 rfl (show 0 < xn Y1 1990000 by rw [hJ2.2]; decide) (by omega) dL_law_2039 ?_
      refine G_iload (pc := 2040) dL_law_2040 rfl ?_
      refine G_i2l (pc := 2042) dL_law_2042 ?_
      refine G_lcmp (pc := 2043) dL_law_2043 ?_
      refine G_if_eq (pc := 2044) (tgt := 2049) dL_law_2044 (by decide) (fun c2044 => ?_) (fun c2044 => ?_)
      · skip
        refine G_goto (pc := 2049) (tgt := 2232) dL_law_2049 (by decide) ?_
        exact G_weak wk7 (next (k.1 + 12, k.2 + 100) (wM Y1 F') _ (Nat.add_le_add_left (by decide) _) (Nat.add_le_add_left (by decide) _) nx.go rfl)
      · exact absurd (lcmp_eq (show xJ Y1 1990000 0 = _ from ey (nI_z hi9 c2034))) c2044
  · exact absurd e25 c2027
theorem LC_wear {Γ : GTy} (hG : GS Γ) {W : WTy} {k : Nat × Nat} {n : Nat} {Z : HS} {F A : FT} {g : GN} (h : CI n Z F g A) (hF : rF Z = F) (hn : n < 512) (hL : 5 * n + 5 ≤ (gt Γ 4).2.1) (hL2 : (gt Γ 4).2.1 ≤ 2560) (k1 : k.1 ≤ 10000) (k2 : k.2 ≤ 100000) (next : LN Γ W n k) : G Γ M_L_law room_1 W k 2052 [some (.ref (sid 4)), some (.ref 800000), some (.ref 900000), some (.ref 1990000), some (.int (nI (5 * n))), none, none] [] Z := by
  have hH := h.1
  have hJ := hH.2.2.2.2.2.1
  obtain ⟨b, F', hM2, hop⟩ := op_wear hG h hn ((gt Γ 4).2.2 (5 * n + 1))
  refine G_aload_n (pc := 2052) dL_law_2052 rfl ?_
  refine G_aload_n (pc := 2053) dL_law_2053 rfl ?_
  refine G_iload (pc := 2054) dL_law_2054 rfl ?_
  refine G_iconst (pc := 2056) (v := nI 1) dL_law_2056 (by first | rfl | decide) ?_
  refine G_iaddN (pc := 2057) dL_law_2057 ?_
  refine G_sald (pc := 2058) (i := 4) (j := _) (by decide) rfl (by first | omega | decide) (by omega) dL_law_2058 ?_
  refine G_aload_n (pc := 2059) dL_law_2059 rfl ?_
  refine K_LW (pc := 2060) (k' := (k.1 + 12, k.2 + 100)) (as := [.ref 800000, .int ((gt Γ 4).2.2 (5 * n + 1)), .ref 1990000]) (rest := []) mok_L_wear lk_L_227 (rmB_le (a := 10100) (b := 100200) rfl (by omega) (by omega)) rfl rfl (aos0 rfl) dL_law_2060 (W_wear hH hop) rfl ?_
  rintro v Y1 ⟨i9, hi9, rfl, e25, nx, ey⟩
  have hS := (SH_nx nx).2.2.2.2.1
  have hJ2 := (SH_nx nx).2.2.2.2.2
  have eW : wM Y1 F = Y1 := by rw [← hF, ← nx.1]; exact wM_rF Y1
  have hm := hM2 Y1 hS
  rw [eW] at hm
  show G _ _ _ _ _ _ _ [.int (nI i9)] _
  refine G_istore (pc := 2063) dL_law_2063 (by decide) ?_
  refine G_aload_n (pc := 2065) dL_law_2065 rfl ?_
  refine G_aload_n (pc := 2066) dL_law_2066 rfl ?_
  refine G_iload (pc := 2067) dL_law_2067 rfl ?_
  refine G_iconst (pc := 2069) (v := nI 1) dL_law_2069 (by first | rfl | decide) ?_
  refine G_iaddN (pc := 2070) dL_law_2070 ?_
  refine G_sald (pc := 2071) (i := 4) (j := _) (by decide) rfl (by first | omega | decide) (by omega) dL_law_2071 ?_
  refine K_Vn1r (pc := 2072) (k' := (k.1 + 12, k.2 + 100)) mok_X10_wear lk_L_229 hS.1 rfl rfl (rmB_le (a := 10100) (b := 100200) rfl (show k.1 + 12 ≤ _ by omega) (show k.2 + 100 ≤ _ by omega)) (aok0 rfl) dL_law_2072 hm rfl ?_
  refine G_istore (pc := 2075) dL_law_2075 (by decide) ?_
  refine G_aload_n (pc := 2077) dL_law_2077 rfl ?_
  refine K_Vn0r (pc := 2078) (k' := (k.1 + 12, k.2 + 100)) mok_X10_thrown lk_L_127 hS.1 rfl rfl (rmB_le (a := 10100) (b := 100200) rfl (show k.1 + 12 ≤ _ by omega) (show k.2 + 100 ≤ _ by omega)) (aok0 rfl) dL_law_2078 (C_thrown hS F') rfl ?_
  refine G_iload (pc := 2081) dL_law_2081 rfl ?_
  refine G_icmp_eq (pc := 2083) (tgt := 2088) dL_law_2083 (by decide) (fun c2083 => ?_) (fun c2083 => ?_)
  · skip
    refine G_iload (pc := 2088) dL_law_2088 rfl ?_
    refine G_if_ne (pc := 2090) (tgt := 2105) dL_law_2090 (by decide) (fun c2090 => ?_) (fun c2090 => ?_)
    · skip
      refine G_goto (pc := 2105) (tgt := 2232) dL_law_2105 (by decide) ?_
      exact G_weak wk7 (next (k.1 + 12, k.2 + 100) (wM Y1 F') _ (Nat.add_le_add_left (by decide) _) (Nat.add_le_add_left (by decide) _) nx.go rfl)
    · skip
      refine G_aload_n (pc := 2093) dL_law_2093 rfl ?_
      refine G_iconst (pc := 2094) (v := nI 0) dL_law_2094 (by first | rfl | decide) ?_
      refine G_lald (pc := 2095) (j := 0) hJ2.1 rfl (show 0 < xn Y1 1990000 by rw [hJ2.2]; decide) (by omega) dL_law_2095 ?_
      refine G_iload (pc := 2096) dL_law_2096 rfl ?_
      refine G_i2l (pc := 2098) dL_law_2098 ?_
      refine G_lcmp (pc := 2099) dL_law_2099 ?_
      refine G_if_eq (pc := 2100) (tgt := 2105) dL_law_2100 (by decide) (fun c2100 => ?_) (fun c2100 => ?_)
      · skip
        refine G_goto (pc := 2105) (tgt := 2232) dL_law_2105 (by decide) ?_
        exact G_weak wk7 (next (k.1 + 12, k.2 + 100) (wM Y1 F') _ (Nat.add_le_add_left (by decide) _) (Nat.add_le_add_left (by decide) _) nx.go rfl)
      · exact absurd (lcmp_eq (show xJ Y1 1990000 0 = _ from ey (nI_z hi9 c2090))) c2100
  · exact absurd e25 c2083
theorem LC_cueOf {Γ : GTy} (hG : GS Γ) {W : WTy} {k : Nat × Nat} {n : Nat} {Z : HS} {F A : FT} {g : GN} (h : CI n Z F g A) (hF : rF Z = F) (hn : n < 512) (hL : 5 * n + 5 ≤ (gt Γ 4).2.1) (hL2 : (gt Γ 4).2.1 ≤ 2560) (k1 : k.1 ≤ 10000) (k2 : k.2 ≤ 100000) (next : LN Γ W n k) : G Γ M_L_law room_1 W k 2108 [some (.ref (sid 4)), some (.ref 800000), some (.ref 900000), some (.ref 1990000), some (.int (nI (5 * n))), none, none] [] Z := by
  have hH := h.1
  have hJ := hH.2.2.2.2.2.1
  obtain ⟨b, F', hM2, hop⟩ := op_cueOf hG h hn ((gt Γ 4).2.2 (5 * n + 1))
  refine G_aload_n (pc := 2108) dL_law_2108 rfl ?_
  refine G_aload_n (pc := 2109) dL_law_2109 rfl ?_
  refine G_iload (pc := 2110) dL_law_2110 rfl ?_
  refine G_iconst (pc := 2112) (v := nI 1) dL_law_2112 (by first | rfl | decide) ?_
  refine G_iaddN (pc := 2113) dL_law_2113 ?_
  refine G_sald (pc := 2114) (i := 4) (j := _) (by decide) rfl (by first | omega | decide) (by omega) dL_law_2114 ?_
  refine G_aload_n (pc := 2115) dL_law_2115 rfl ?_
  refine K_LW (pc := 2116) (k' := (k.1 + 12, k.2 + 100)) (as := [.ref 800000, .int ((gt Γ 4).2.2 (5 * n + 1)), .ref 1990000]) (rest := []) mok_L_cueOf lk_L_230 (rmB_le (a := 10100) (b := 100200) rfl (by omega) (by omega)) rfl rfl (aos0 rfl) dL_law_2116 (W_cueOf hH hop) rfl ?_
  rintro v Y1 ⟨i9, hi9, rfl, e25, nx, ey⟩
  have hS := (SH_nx nx).2.2.2.2.1
  have hJ2 := (SH_nx nx).2.2.2.2.2
  have eW : wM Y1 F = Y1 := by rw [← hF, ← nx.1]; exact wM_rF Y1
  have hm := hM2 Y1 hS
  rw [eW] at hm
  show G _ _ _ _ _ _ _ [.int (nI i9)] _
  refine G_istore (pc := 2119) dL_law_2119 (by decide) ?_
  refine G_aload_n (pc := 2121) dL_law_2121 rfl ?_
  refine G_aload_n (pc := 2122) dL_law_2122 rfl ?_
  refine G_iload (pc := 2123) dL_law_2123 rfl ?_
  refine G_iconst (pc := 2125) (v := nI 1) dL_law_2125 (by first | rfl | decide) ?_
  refine G_iaddN (pc := 2126) dL_law_2126 ?_
  refine G_sald (pc := 2127) (i := 4) (j := _) (by decide) rfl (by first | omega | decide) (by omega) dL_law_2127 ?_
  refine K_Vn1r (pc := 2128) (k' := (k.1 + 12, k.2 + 100)) mok_X10_cueOf lk_L_232 hS.1 rfl rfl (rmB_le (a := 10100) (b := 100200) rfl (show k.1 + 12 ≤ _ by omega) (show k.2 + 100 ≤ _ by omega)) (aok0 rfl) dL_law_2128 hm rfl ?_
  refine G_istore (pc := 2131) dL_law_2131 (by decide) ?_
  refine G_aload_n (pc := 2133) dL_law_2133 rfl ?_
  refine K_Vn0r (pc := 2134) (k' := (k.1 + 12, k.2 + 100)) mok_X10_thrown lk_L_127 hS.1 rfl rfl (rmB_le (a := 10100) (b := 100200) rfl (show k.1 + 12 ≤ _ by omega) (show k.2 + 100 ≤ _ by omega)) (aok0 rfl) dL_law_2134 (C_thrown hS F') rfl ?_
  refine G_iload (pc := 2137) dL_law_2137 rfl ?_
  refine G_icmp_eq (pc := 2139) (tgt := 2144) dL_law_2139 (by decide) (fun c2139 => ?_) (fun c2139 => ?_)
  · skip
    refine G_iload (pc := 2144) dL_law_2144 rfl ?_
    refine G_if_ne (pc := 2146) (tgt := 2161) dL_law_2146 (by decide) (fun c2146 => ?_) (fun c2146 => ?_)
    · skip
      refine G_goto (pc := 2161) (tgt := 2232) dL_law_2161 (by decide) ?_
      exact G_weak wk7 (next (k.1 + 12, k.2 + 100) (wM Y1 F') _ (Nat.add_le_add_left (by decide) _) (Nat.add_le_add_left (by decide) _) nx.go rfl)
    · skip
      refine G_aload_n (pc := 2149) dL_law_2149 rfl ?_
      refine G_iconst (pc := 2150) (v := nI 0) dL_law_2150 (by first | rfl | decide) ?_
      refine G_lald (pc := 2151) (j := 0) hJ2.1 rfl (show 0 < xn Y1 1990000 by rw [hJ2.2]; decide) (by omega) dL_law_2151 ?_
      refine G_iload (pc := 2152) dL_law_2152 rfl ?_
      refine G_i2l (pc := 2154) dL_law_2154 ?_
      refine G_lcmp (pc := 2155) dL_law_2155 ?_
      refine G_if_eq (pc := 2156) (tgt := 2161) dL_law_2156 (by decide) (fun c2156 => ?_) (fun c2156 => ?_)
      · skip
        refine G_goto (pc := 2161) (tgt := 2232) dL_law_2161 (by decide) ?_
        exact G_weak wk7 (next (k.1 + 12, k.2 + 100) (wM Y1 F') _ (Nat.add_le_add_left (by decide) _) (Nat.add_le_add_left (by decide) _) nx.go rfl)
      · exact absurd (lcmp_eq (show xJ Y1 1990000 0 = _ from ey (nI_z hi9 c2146))) c2156
  · exact absurd e25 c2139
theorem LC_force {Γ : GTy} (hG : GS Γ) {W : WTy} {k : Nat × Nat} {n : Nat} {Z : HS} {F A : FT} {g : GN} (h : CI n Z F g A) (hF : rF Z = F) (hn : n < 512) (hL : 5 * n + 5 ≤ (gt Γ 4).2.1) (hL2 : (gt Γ 4).2.1 ≤ 2560) (k1 : k.1 ≤ 10000) (k2 : k.2 ≤ 100000) (next : LN Γ W n k) : G Γ M_L_law room_1 W k 2164 [some (.ref (sid 4)), some (.ref 800000), some (.ref 900000), some (.ref 1990000), some (.int (nI (5 * n))), none, none] [] Z := by
  have hH := h.1
  have hJ := hH.2.2.2.2.2.1
  obtain ⟨b, F', hM2, hop⟩ := op_force hG h hn ((gt Γ 4).2.2 (5 * n + 1)) ((gt Γ 4).2.2 (5 * n + 2))
  refine G_aload_n (pc := 2164) dL_law_2164 rfl ?_
  refine G_aload_n (pc := 2165) dL_law_2165 rfl ?_
  refine G_iload (pc := 2166) dL_law_2166 rfl ?_
  refine G_iconst (pc := 2168) (v := nI 1) dL_law_2168 (by first | rfl | decide) ?_
  refine G_iaddN (pc := 2169) dL_law_2169 ?_
  refine G_sald (pc := 2170) (i := 4) (j := _) (by decide) rfl (by first | omega | decide) (by omega) dL_law_2170 ?_
  refine G_aload_n (pc := 2171) dL_law_2171 rfl ?_
  refine G_iload (pc := 2172) dL_law_2172 rfl ?_
  refine G_iconst (pc := 2174) (v := nI 2) dL_law_2174 (by first | rfl | decide) ?_
  refine G_iaddN (pc := 2175) dL_law_2175 ?_
  refine G_sald (pc := 2176) (i := 4) (j := _) (by decide) rfl (by first | omega | decide) (by omega) dL_law_2176 ?_
  refine G_aload_n (pc := 2177) dL_law_2177 rfl ?_
  refine K_LW (pc := 2178) (k' := (k.1 + 12, k.2 + 100)) (as := [.ref 800000, .int ((gt Γ 4).2.2 (5 * n + 1)), .int ((gt Γ 4).2.2 (5 * n + 2)), .ref 1990000]) (rest := []) mok_L_force lk_L_233 (rmB_le (a := 10100) (b := 100200) rfl (by omega) (by omega)) rfl rfl (aos0 rfl) dL_law_2178 (W_force hH hop) rfl ?_
  rintro v Y1 ⟨i9, hi9, rfl, e25, nx, ey⟩
  have hS := (SH_nx nx).2.2.2.2.1
  have hJ2 := (SH_nx nx).2.2.2.2.2
  have eW : wM Y1 F = Y1 := by rw [← hF, ← nx.1]; exact wM_rF Y1
  have hm := hM2 Y1 hS
  rw [eW] at hm
  show G _ _ _ _ _ _ _ [.int (nI i9)] _
  refine G_istore (pc := 2181) dL_law_2181 (by decide) ?_
  refine G_aload_n (pc := 2183) dL_law_2183 rfl ?_
  refine G_aload_n (pc := 2184) dL_law_2184 rfl ?_
  refine G_iload (pc := 2185) dL_law_2185 rfl ?_
  refine G_iconst (pc := 2187) (v := nI 1) dL_law_2187 (by first | rfl | decide) ?_
  refine G_iaddN (pc := 2188) dL_law_2188 ?_
  refine G_sald (pc := 2189) (i := 4) (j := _) (by decide) rfl (by first | omega | decide) (by omega) dL_law_2189 ?_
  refine G_aload_n (pc := 2190) dL_law_2190 rfl ?_
  refine G_iload (pc := 2191) dL_law_2191 rfl ?_
  refine G_iconst (pc := 2193) (v := nI 2) dL_law_2193 (by first | rfl | decide) ?_
  refine G_iaddN (pc := 2194) dL_law_2194 ?_
  refine G_sald (pc := 2195) (i := 4) (j := _) (by decide) rfl (by first | omega | decide) (by omega) dL_law_2195 ?_
  refine K_Vn2r (pc := 2196) (k' := (k.1 + 12, k.2 + 100)) mok_X10_force lk_L_235 hS.1 rfl rfl (rmB_le (a := 10100) (b := 100200) rfl (show k.1 + 12 ≤ _ by omega) (show k.2 + 100 ≤ _ by omega)) (aok0 rfl) dL_law_2196 hm rfl ?_
  refine G_istore (pc := 2199) dL_law_2199 (by decide) ?_
  refine G_aload_n (pc := 2201) dL_law_2201 rfl ?_
  refine K_Vn0r (pc := 2202) (k' := (k.1 + 12, k.2 + 100)) mok_X10_thrown lk_L_127 hS.1 rfl rfl (rmB_le (a := 10100) (b := 100200) rfl (show k.1 + 12 ≤ _ by omega) (show k.2 + 100 ≤ _ by omega)) (aok0 rfl) dL_law_2202 (C_thrown hS F') rfl ?_
  refine G_iload (pc := 2205) dL_law_2205 rfl ?_
  refine G_icmp_eq (pc := 2207) (tgt := 2212) dL_law_2207 (by decide) (fun c2207 => ?_) (fun c2207 => ?_)
  · skip
    refine G_iload (pc := 2212) dL_law_2212 rfl ?_
    refine G_if_ne (pc := 2214) (tgt := 2229) dL_law_2214 (by decide) (fun c2214 => ?_) (fun c2214 => ?_)
    · skip
      refine G_goto (pc := 2229) (tgt := 2232) dL_law_2229 (by decide) ?_
      exact G_weak wk7 (next (k.1 + 12, k.2 + 100) (wM Y1 F') _ (Nat.add_le_add_left (by decide) _) (Nat.add_le_add_left (by decide) _) nx.go rfl)
    · skip
      refine G_aload_n (pc := 2217) dL_law_2217 rfl ?_
      refine G_iconst (pc := 2218) (v := nI 0) dL_law_2218 (by first | rfl | decide) ?_
      refine G_lald (pc := 2219) (j := 0) hJ2.1 rfl (show 0 < xn Y1 1990000 by rw [hJ2.2]; decide) (by omega) dL_law_2219 ?_
      refine G_iload (pc := 2220) dL_law_2220 rfl ?_
      refine G_i2l (pc := 2222) dL_law_2222 ?_
      refine G_lcmp (pc := 2223) dL_law_2223 ?_
      refine G_if_eq (pc := 2224) (tgt := 2229) dL_law_2224 (by decide) (fun c2224 => ?_) (fun c2224 => ?_)
      · skip
        refine G_goto (pc := 2229) (tgt := 2232) dL_law_2229 (by decide) ?_
        exact G_weak wk7 (next (k.1 + 12, k.2 + 100) (wM Y1 F') _ (Nat.add_le_add_left (by decide) _) (Nat.add_le_add_left (by decide) _) nx.go rfl)
      · exact absurd (lcmp_eq (show xJ Y1 1990000 0 = _ from ey (nI_z hi9 c2214))) c2224
  · exact absurd e25 c2207
