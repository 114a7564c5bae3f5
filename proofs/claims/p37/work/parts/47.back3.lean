-- ===== takeBack: the calls =====
theorem rF_back {Z : HS} {q a c : Nat} {w d : Int32} {v : Option Nat} : rF (sA (sR (sI Z 3 2 q w) 1 1 a v) 1800006 c d) = rF Z := by
  rw [rF_sA (by decide), rF_sR, rF_sI (by decide)]
theorem C_lclose {Γ : GTy} {Z : HS} {q : Nat} (hk : xK Z q = 3) (w : Int32) : Tn Γ M_X3_close [.ref q, .int w] Z (rt none (sI Z 3 2 q w)) := by
  refine Tn_of' rfl rfl rfl ?_
  show G Γ M_X3_close (rm M_X3_close) (Vn Γ M_X3_close (rt none (sI Z 3 2 q w))) (0, 0) 0 [some (.ref q), some (.int w)] [] Z
  refine G_aload_n (pc := 0) dX3_close_0 rfl ?_
  refine G_iload_n (pc := 1) dX3_close_1 rfl ?_
  refine G_putI (pc := 2) fl_X3_9 fw_3_2 hk rfl dX3_close_2 ?_
  refine G_vret (pc := 5) VZ.n dX3_close_5 rfl ⟨by decide, by decide⟩ ?_
  exact ⟨rfl, rfl⟩
theorem K_takeBackN {Γ : GTy} {Z : HS} {n : Nat} {P : HS → FT → Prop} {F A : FT} {g : GN} (h : CI n Z F g A) {u : Nat} (hu : u < 6) (hl : g 4 u ≠ 0) {F' : FT} {b : Int32} (hb : nI 20 - ((F 108 u - F 109 u) / nI 5) = b) (hcd : F' 25 0 = nI 0) (hq : Nx P Z (sA (sR (sI Z 3 2 (300000 + g 5 u) (F 108 u)) 1 1 (100000 + u) none) 1800006 (g 4 u - 1) (owe F (g 4 u - 1) + -(nI 20 - ((F 108 u - F 109 u) / nI 5)))) F') : Tt Γ M_X9_takeBack [.ref 800000, .int (nI u)] Z (QVo P Z F' b) (QXo P Z F' [xIO, xIS]) := by
  refine Tt_of' rfl rfl rfl ?_
  show G Γ M_X9_takeBack (rm M_X9_takeBack) (Vt Γ M_X9_takeBack (QVo P Z F' b) (QXo P Z F' [xIO, xIS])) (0, 0) 0 [some (.ref 800000), some (.int (nI u)), none, none, none] [] Z
  have h0 := h
  obtain ⟨hH, ⟨hPI, hPG, hZo⟩, ⟨hZh, hZd, hZw⟩, ⟨hZt, hZc, hZf⟩, ⟨hZr, hZs, hZl⟩, hZfr, hZbd⟩ := h0
  have hc0 := (hZc u hu).2.2 hl
  have hg5 := hPG.2.2.2.2 u hu hl
  have hl0 := hZl _ hg5.1
  have kS : SH (sR (sI Z 3 2 (300000 + g 5 u) (F 108 u)) 1 1 (100000 + u) none) := SH_t hH (by rw [xK_sR', xK_sI']) (by rw [xn_sR', xn_sI']) (fun c k a hc => by rw [xR_sR (by omega), xR_sI']) (fun a i ha => by rw [xP_sR', xP_sI'])
  have s2 : (xI (sR (sI Z 3 2 (300000 + g 5 u) (F 108 u)) 1 1 (100000 + u) none) 3 2 (300000 + g 5 u) - xI (sR (sI Z 3 2 (300000 + g 5 u) (F 108 u)) 1 1 (100000 + u) none) 3 1 (300000 + g 5 u)) / nI 5 = ((F 108 u - F 109 u) / nI 5) := by rw [xI_sR', xI_sIe, xI_sI (fun w => absurd w.2.1 (by decide)), hc0.2.1]
  have s0 : xI (sR (sI Z 3 2 (300000 + g 5 u) (F 108 u)) 1 1 (100000 + u) none) 3 0 (300000 + g 5 u) = nI (g 4 u - 1) := by rw [xI_sR', xI_sI (fun w => absurd w.2.1 (by decide)), hl0.2.2.1.1, show g 14 (g 5 u) = g 4 u - 1 by omega]
  have sd : xA (sR (sI Z 3 2 (300000 + g 5 u) (F 108 u)) 1 1 (100000 + u) none) 1800006 (g 4 u - 1) = owe F (g 4 u - 1) := by rw [xA_sR', xA_sI']; exact hZd _ (by have := hl0.2.2.1.2; omega)
  have kq : xK (sR (sI Z 3 2 (300000 + g 5 u) (F 108 u)) 1 1 (100000 + u) none) (300000 + g 5 u) = 3 := by rw [xK_sR', xK_sI']; exact hl0.1
  refine G_aload_n (pc := 0) dX9_takeBack_0 rfl ?_
  refine G_iload_n (pc := 1) dX9_takeBack_1 rfl ?_
  refine K_Vn1r (pc := 2) (k' := (1, 6)) mok_X9_cueAt lk_X9_222 (sh_k hH) rfl rfl rfl (aok0 rfl) dX9_takeBack_2 (C_cueAtN hH hu) rfl ?_
  refine G_astore_n (pc := 5) dX9_takeBack_5 (by decide) ?_
  refine G_aload_n (pc := 6) dX9_takeBack_6 rfl ?_
  refine G_getS (pc := 7) fl_X9_225 (hH.2.2.2.1 u hu).1 rfl hc0.1 dX9_takeBack_7 ?_
  refine G_astore_n (pc := 10) dX9_takeBack_10 (by decide) ?_
  refine G_aload_n (pc := 11) dX9_takeBack_11 rfl ?_
  refine G_ifnonnull_r (pc := 12) (tgt := 25) dX9_takeBack_12 (by decide) ?_
  refine G_aload_n (pc := 25) dX9_takeBack_25 rfl ?_
  refine G_aload_n (pc := 26) dX9_takeBack_26 rfl ?_
  refine G_getIv (pc := 27) (c := 1) (i := 0) (v := F 108 u) (hZc u hu).1 fl_X9_231 (hH.2.2.2.1 u hu).1 rfl dX9_takeBack_27 ?_
  refine K_Vn1v (pc := 30) (k' := (1, 6)) mok_X3_close lk_X9_245 hl0.1 rfl rfl rfl (aok0 rfl) dX9_takeBack_30 (C_lclose hl0.1 (F 108 u)) rfl ?_
  refine G_aload_n (pc := 33) dX9_takeBack_33 rfl ?_
  refine G_null (pc := 34) dX9_takeBack_34 ?_
  refine G_putR (pc := 35) (o := none) rfl (fun _ h => nomatch h) fl_X9_225 fw_1_1 (hH.2.2.2.1 u hu).1 rfl dX9_takeBack_35 ?_
  refine G_bipush (pc := 38) (v := nI 20) dX9_takeBack_38 (by first | rfl | decide) ?_
  refine G_aload_n (pc := 40) dX9_takeBack_40 rfl ?_
  refine K_Vn0r (pc := 41) (k' := (1, 6)) mok_X3_coinsKept lk_X9_248 hl0.1 rfl rfl rfl (aok0 rfl) dX9_takeBack_41 (C_kept kq) rfl ?_
  rw [s2]
  refine G_isub (pc := 44) dX9_takeBack_44 ?_
  refine G_istore (pc := 45) dX9_takeBack_45 (by decide) ?_
  refine G_aload_n (pc := 47) dX9_takeBack_47 rfl ?_
  refine G_aload_n (pc := 48) dX9_takeBack_48 rfl ?_
  refine G_getIv (pc := 49) (c := 3) (i := 0) (v := nI (g 4 u - 1)) s0 fl_X9_251 hl0.1 rfl dX9_takeBack_49 ?_
  refine G_iload (pc := 52) dX9_takeBack_52 rfl ?_
  refine G_ineg (pc := 54) dX9_takeBack_54 ?_
  refine K_Vn2v (pc := 55) (k' := (1, 6)) mok_X9_addDebt lk_X9_240 (sh_k kS) rfl rfl rfl (aok0 rfl) dX9_takeBack_55 (C_addDebt kS (by have := hl0.2.2.1.2; omega) sd (-(nI 20 - ((F 108 u - F 109 u) / nI 5)))) rfl ?_
  refine G_iload (pc := 58) dX9_takeBack_58 rfl ?_
  refine G_iret (pc := 60) VZ.x dX9_takeBack_60 rfl ⟨by decide, by decide⟩ ?_
  exact ⟨congrArg (fun z => some (Value.int z)) hb, hcd, hq⟩
theorem K_takeBackX {Γ : GTy} {Z : HS} {n : Nat} {P : HS → FT → Prop} {F A : FT} {g : GN} (h : CI n Z F g A) {x : Int32} (hx : ¬ (nI 0 ≤ x ∧ x ≤ nI 5)) {F' : FT} {b : Int32} (hcd : F' 25 0 = nI 1) (hq : Nx P Z Z F') : Tt Γ M_X9_takeBack [.ref 800000, .int x] Z (QVo P Z F' b) (QXo P Z F' [xIO, xIS]) := by
  refine Tt_of' rfl rfl rfl ?_
  show G Γ M_X9_takeBack (rm M_X9_takeBack) (Vt Γ M_X9_takeBack (QVo P Z F' b) (QXo P Z F' [xIO, xIS])) (0, 0) 0 [some (.ref 800000), some (.int x), none, none, none] [] Z
  have h0 := h
  obtain ⟨hH, ⟨hPI, hPG, hZo⟩, ⟨hZh, hZd, hZw⟩, ⟨hZt, hZc, hZf⟩, ⟨hZr, hZs, hZl⟩, hZfr, hZbd⟩ := h0
  refine G_aload_n (pc := 0) dX9_takeBack_0 rfl ?_
  refine G_iload_n (pc := 1) dX9_takeBack_1 rfl ?_
  refine K_V1 (pc := 2) (k' := (1, 6)) mok_X9_cueAt lk_X9_222 (sh_k hH) rfl rfl rfl (aok0 rfl) dX9_takeBack_2 (C_cueAtX hH hx) rfl (fun v1 Y1 q1 => ?_) (fun E1 Y1 q1 => ?_)
  · exact q1.elim
  · (obtain ⟨rfl, rfl⟩ := q1; exact GX_out rfl ⟨by decide, by decide⟩ ⟨0, rfl, hcd, hq⟩)
theorem K_takeBackY {Γ : GTy} {Z : HS} {n : Nat} {P : HS → FT → Prop} {F A : FT} {g : GN} (h : CI n Z F g A) {u : Nat} (hu : u < 6) (hl : g 4 u = 0) {F' : FT} {b : Int32} (hcd : F' 25 0 = nI 2) (hq : Nx P Z Z F') : Tt Γ M_X9_takeBack [.ref 800000, .int (nI u)] Z (QVo P Z F' b) (QXo P Z F' [xIO, xIS]) := by
  refine Tt_of' rfl rfl rfl ?_
  show G Γ M_X9_takeBack (rm M_X9_takeBack) (Vt Γ M_X9_takeBack (QVo P Z F' b) (QXo P Z F' [xIO, xIS])) (0, 0) 0 [some (.ref 800000), some (.int (nI u)), none, none, none] [] Z
  have h0 := h
  obtain ⟨hH, ⟨hPI, hPG, hZo⟩, ⟨hZh, hZd, hZw⟩, ⟨hZt, hZc, hZf⟩, ⟨hZr, hZs, hZl⟩, hZfr, hZbd⟩ := h0
  refine G_aload_n (pc := 0) dX9_takeBack_0 rfl ?_
  refine G_iload_n (pc := 1) dX9_takeBack_1 rfl ?_
  refine K_Vn1r (pc := 2) (k' := (1, 6)) mok_X9_cueAt lk_X9_222 (sh_k hH) rfl rfl rfl (aok0 rfl) dX9_takeBack_2 (C_cueAtN hH hu) rfl ?_
  refine G_astore_n (pc := 5) dX9_takeBack_5 (by decide) ?_
  refine G_aload_n (pc := 6) dX9_takeBack_6 rfl ?_
  refine G_getN (pc := 7) fl_X9_225 (hH.2.2.2.1 u hu).1 rfl ((hZc u hu).2.1 hl) dX9_takeBack_7 ?_
  refine G_astore_nN (pc := 10) dX9_takeBack_10 (by decide) ?_
  refine G_aload_nN (pc := 11) dX9_takeBack_11 rfl ?_
  refine G_ifnonnull_n (pc := 12) dX9_takeBack_12 ?_
  refine G_throw (pc := 15)  tw_X9_243 rfl dX9_takeBack_15 dX9_takeBack_18 dX9_takeBack_19 dX9_takeBack_21 dX9_takeBack_24 ⟨by decide, Nat.le_of_ble_eq_true rfl, by decide, by decide⟩ ⟨by decide, by decide⟩ ?_
  exact ⟨1, rfl, hcd, hq⟩
