-- ===== shoot =====
theorem white_on {V : FT} {f : Nat} (hJ : JV V) (hKV : KV (fun k => V 118 (8 * f + k)) V) (hw0 : ¬ V 118 (8 * f) = -1) : ∃ c, c < 128 ∧ fF (kF V f 8) f 8 119 0 = nI c := by
  have hd : dB V 0 ↔ V 119 0 = -1 := KV.d0 hKV hJ (by decide) hw0
  have hEK : ∀ j, j < 8 → kF V f 8 118 (8 * f + j) = kF V f 8 119 j := fun j hj => kF_c hj
  have hJK : JV (kF V f 8) := hJ
  obtain ⟨-, -, g3⟩ := FV_all hEK hJK.2.1 (Nat.le_refl 8)
  by_cases q : dB (kF V f 8) 0
  · exact (g3 0 (by decide)).1 ⟨by decide, q⟩
  · rw [(g3 0 (by decide)).2 (fun r => q r.2)]
    exact hJK.1.nn (by decide) (fun r => q (hd.mpr r))
theorem K_shoot00N {Γ : GTy} {Z : HS} {n : Nat} {P : HS → FT → Prop} {F A : FT} {g : GN} (h : CI n Z F g A) {f d c : Nat} {z fo v : Int32} (hf : f < g 16 0) (d8 : d < 8) (hz : nI 1 ≤ z ∧ z ≤ nI 40) (ht0 : g 23 f ≠ 0) (ht4 : g 23 f - 1 < 4) (hc : F 111 (2 * f + g 22 f) = nI c) (c8 : c < 8) (he : lastW (fun k => F 107 k = nI (c + 1)) 6 = -1) (hfo : clip1 (nI 3 * z / nI 4) = fo) {Z1 L1 : HS} (hT : Tn Γ M_X6_run [.ref 10, .ref (1200000 + f), .int (nI d), .int fo] Z (rt none Z1)) (kf1 : xK Z1 (200000 + f) = 2) (hS1 : SH Z1) (hE : Tn Γ M_X2_settle [.ref (200000 + f), .ref 10] Z1 (rt (some (.int v)) L1)) (kf3 : xK L1 (200000 + f) = 2) (hS3 : SH L1) (hI : Tn Γ M_X2_isOver [.ref (200000 + f)] L1 (rt (some (.int (nI 0))) L1)) {F' : FT} {b : Int32} (hb : v = b) (hcd : F' 25 0 = nI 0) (hq : Nx P Z L1 F') : Tt Γ M_X9_shoot [.ref 800000, .int (nI f), .int (nI d), .int z] Z (QVo P Z F' b) (QXo P Z F' [xIO, xIA, xIS]) := by
  refine Tt_of' rfl rfl rfl ?_
  show G Γ M_X9_shoot (rm M_X9_shoot) (Vt Γ M_X9_shoot (QVo P Z F' b) (QXo P Z F' [xIO, xIA, xIS])) (0, 0) 0 [some (.ref 800000), some (.int (nI f)), some (.int (nI d)), some (.int z), none, none, none] [] Z
  have h0 := h
  obtain ⟨hH, ⟨hPI, hPG, hZo⟩, ⟨hZh, hZd, hZw⟩, ⟨hZt, hZc, hZf⟩, ⟨hZr, hZs, hZl⟩, hZfr, hZbd⟩ := h0
  refine G_aload_n (pc := 0) dX9_shoot_0 rfl ?_
  refine G_iload_n (pc := 1) dX9_shoot_1 rfl ?_
  refine K_Vn1r (pc := 2) (k' := (1, 6)) mok_X9_frameAt lk_X9_164 (sh_k hH) rfl rfl rfl (aok0 rfl) dX9_shoot_2 (C_frameAtN hH hf hZh.1.1 hPI.1.2.2 (hZf f hf).2.1 (hZf f hf).1.1) rfl ?_
  refine G_astore (pc := 5) dX9_shoot_5 (by decide) ?_
  refine G_iload_n (pc := 7) dX9_shoot_7 rfl ?_
  refine G_iconst (pc := 8) (v := nI 0) dX9_shoot_8 (by first | rfl | decide) ?_
  refine G_bipush (pc := 9) (v := nI 7) dX9_shoot_9 (by first | rfl | decide) ?_
  refine K_Sn3v (pc := 11) (k' := (2, 12)) mok_X9_requireRange lk_X9_71 rfl (aok0 rfl) dX9_shoot_11 (C_rangeN (inN (by omega) (by decide))) rfl ?_
  refine G_iload_n (pc := 14) dX9_shoot_14 rfl ?_
  refine G_iconst (pc := 15) (v := nI 1) dX9_shoot_15 (by first | rfl | decide) ?_
  refine G_bipush (pc := 16) (v := nI 40) dX9_shoot_16 (by first | rfl | decide) ?_
  refine K_Sn3v (pc := 18) (k' := (3, 18)) mok_X9_requireRange lk_X9_71 rfl (aok0 rfl) dX9_shoot_18 (C_rangeN hz) rfl ?_
  refine G_aload (pc := 21) dX9_shoot_21 rfl ?_
  refine G_getS (pc := 23) fl_X9_185 (hZf f hf).1.1 rfl ((hZf f hf).2.2.2.2.2 ht0) dX9_shoot_23 ?_
  refine G_ifnonnull_r (pc := 26) (tgt := 39) dX9_shoot_26 (by decide) ?_
  refine G_aload_n (pc := 39) dX9_shoot_39 rfl ?_
  refine G_aload (pc := 40) dX9_shoot_40 rfl ?_
  refine K_Vn0r (pc := 42) (k' := (3, 18)) mok_X2_player lk_X9_182 (hZf f hf).1.1 rfl rfl rfl (aok0 rfl) dX9_shoot_42 (D_player h hf) rfl ?_
  rw [hc]
  refine K_Vn1r (pc := 45) (k' := (3, 18)) mok_X9_cueHeldBy lk_X9_191 (sh_k hH) rfl rfl rfl (aok0 rfl) dX9_shoot_45 (C_cueHeldN h c8 he) rfl ?_
  refine G_astoreN (pc := 48) dX9_shoot_48 (by decide) ?_
  refine G_aload_n (pc := 50) dX9_shoot_50 rfl ?_
  refine G_getS (pc := 51) fl_X9_55 (sh_k hH) rfl (sh_r8 hH) dX9_shoot_51 ?_
  refine G_aload (pc := 54) dX9_shoot_54 rfl ?_
  refine G_getS (pc := 56) fl_X9_195 (hZf f hf).1.1 rfl (hZf f hf).1.2.1 dX9_shoot_56 ?_
  refine G_iload_n (pc := 59) dX9_shoot_59 rfl ?_
  refine G_aloadN (pc := 60) dX9_shoot_60 rfl ?_
  refine G_iload_n (pc := 62) dX9_shoot_62 rfl ?_
  refine K_Sn2r (pc := 63) (k' := (3, 18)) mok_X9_forceWith lk_X9_198 rfl (aok0 rfl) dX9_shoot_63 (C_forceN z) rfl ?_
  rw [hfo]
  refine K_U3v (pc := 66) (cb := 0) (k' := (3, 18)) mok_X6_run lk_X9_202_0 rfl (sh_c8 hH) rfl rfl (aok0 rfl) dX9_shoot_66 (hT) rfl ?_
  refine G_aloadN (pc := 69) dX9_shoot_69 rfl ?_
  refine G_ifnull_n (pc := 71) (tgt := 80) dX9_shoot_71 (by decide) ?_
  refine G_aload (pc := 80) dX9_shoot_80 rfl ?_
  refine G_aload_n (pc := 82) dX9_shoot_82 rfl ?_
  refine G_getS (pc := 83) fl_X9_55 (sh_k hS1) rfl (sh_r8 hS1) dX9_shoot_83 ?_
  refine K_Vn1r (pc := 86) (k' := (3, 18)) mok_X2_settle lk_X9_211 kf1 rfl rfl rfl (aok0 rfl) dX9_shoot_86 (hE) rfl ?_
  refine G_istore (pc := 89) dX9_shoot_89 (by decide) ?_
  refine G_aload (pc := 91) dX9_shoot_91 rfl ?_
  refine K_Vn0r (pc := 93) (k' := (3, 18)) mok_X2_isOver lk_X9_215 kf3 rfl rfl rfl (aok0 rfl) dX9_shoot_93 (hI) rfl ?_
  refine G_if_eqN (pc := 96) (tgt := 114) (by omega) dX9_shoot_96 (by decide) (fun _ => ?_) (fun h => absurd h (by decide))
  refine G_iload (pc := 114) dX9_shoot_114 rfl ?_
  refine G_iret (pc := 116) VZ.x dX9_shoot_116 rfl ⟨by decide, by decide⟩ ?_
  exact ⟨congrArg (fun z => some (Value.int z)) hb, hcd, hq⟩
theorem K_shoot01N {Γ : GTy} {Z : HS} {n : Nat} {P : HS → FT → Prop} {F A : FT} {g : GN} (h : CI n Z F g A) {f d c : Nat} {z fo v : Int32} (hf : f < g 16 0) (d8 : d < 8) (hz : nI 1 ≤ z ∧ z ≤ nI 40) (ht0 : g 23 f ≠ 0) (ht4 : g 23 f - 1 < 4) (hc : F 111 (2 * f + g 22 f) = nI c) (c8 : c < 8) (he : lastW (fun k => F 107 k = nI (c + 1)) 6 = -1) (hfo : clip1 (nI 3 * z / nI 4) = fo) {Z1 L1 L2 L3 : HS} (hT : Tn Γ M_X6_run [.ref 10, .ref (1200000 + f), .int (nI d), .int fo] Z (rt none Z1)) (kf1 : xK Z1 (200000 + f) = 2) (hS1 : SH Z1) (hE : Tn Γ M_X2_settle [.ref (200000 + f), .ref 10] Z1 (rt (some (.int v)) L1)) (kf3 : xK L1 (200000 + f) = 2) (hS3 : SH L1) (hI : Tn Γ M_X2_isOver [.ref (200000 + f)] L1 (rt (some (.int (nI 1))) L1)) (hC : Tn Γ M_X9_countWin [.ref 800000, .ref (200000 + f)] L1 (rt none L2)) (hS4 : SH L2) (kf4 : xK L2 (200000 + f) = 2) (h25 : xR L2 2 5 (200000 + f) = some (700000 + (g 23 f - 1))) (kt4 : xK L2 (700000 + (g 23 f - 1)) = 7) (hX : Tn Γ M_X9_takeFrameOff [.ref 800000, .ref (700000 + (g 23 f - 1))] L2 (rt none L3)) {F' : FT} {b : Int32} (hb : v = b) (hcd : F' 25 0 = nI 0) (hq : Nx P Z L3 F') : Tt Γ M_X9_shoot [.ref 800000, .int (nI f), .int (nI d), .int z] Z (QVo P Z F' b) (QXo P Z F' [xIO, xIA, xIS]) := by
  refine Tt_of' rfl rfl rfl ?_
  show G Γ M_X9_shoot (rm M_X9_shoot) (Vt Γ M_X9_shoot (QVo P Z F' b) (QXo P Z F' [xIO, xIA, xIS])) (0, 0) 0 [some (.ref 800000), some (.int (nI f)), some (.int (nI d)), some (.int z), none, none, none] [] Z
  have h0 := h
  obtain ⟨hH, ⟨hPI, hPG, hZo⟩, ⟨hZh, hZd, hZw⟩, ⟨hZt, hZc, hZf⟩, ⟨hZr, hZs, hZl⟩, hZfr, hZbd⟩ := h0
  refine G_aload_n (pc := 0) dX9_shoot_0 rfl ?_
  refine G_iload_n (pc := 1) dX9_shoot_1 rfl ?_
  refine K_Vn1r (pc := 2) (k' := (1, 6)) mok_X9_frameAt lk_X9_164 (sh_k hH) rfl rfl rfl (aok0 rfl) dX9_shoot_2 (C_frameAtN hH hf hZh.1.1 hPI.1.2.2 (hZf f hf).2.1 (hZf f hf).1.1) rfl ?_
  refine G_astore (pc := 5) dX9_shoot_5 (by decide) ?_
  refine G_iload_n (pc := 7) dX9_shoot_7 rfl ?_
  refine G_iconst (pc := 8) (v := nI 0) dX9_shoot_8 (by first | rfl | decide) ?_
  refine G_bipush (pc := 9) (v := nI 7) dX9_shoot_9 (by first | rfl | decide) ?_
  refine K_Sn3v (pc := 11) (k' := (2, 12)) mok_X9_requireRange lk_X9_71 rfl (aok0 rfl) dX9_shoot_11 (C_rangeN (inN (by omega) (by decide))) rfl ?_
  refine G_iload_n (pc := 14) dX9_shoot_14 rfl ?_
  refine G_iconst (pc := 15) (v := nI 1) dX9_shoot_15 (by first | rfl | decide) ?_
  refine G_bipush (pc := 16) (v := nI 40) dX9_shoot_16 (by first | rfl | decide) ?_
  refine K_Sn3v (pc := 18) (k' := (3, 18)) mok_X9_requireRange lk_X9_71 rfl (aok0 rfl) dX9_shoot_18 (C_rangeN hz) rfl ?_
  refine G_aload (pc := 21) dX9_shoot_21 rfl ?_
  refine G_getS (pc := 23) fl_X9_185 (hZf f hf).1.1 rfl ((hZf f hf).2.2.2.2.2 ht0) dX9_shoot_23 ?_
  refine G_ifnonnull_r (pc := 26) (tgt := 39) dX9_shoot_26 (by decide) ?_
  refine G_aload_n (pc := 39) dX9_shoot_39 rfl ?_
  refine G_aload (pc := 40) dX9_shoot_40 rfl ?_
  refine K_Vn0r (pc := 42) (k' := (3, 18)) mok_X2_player lk_X9_182 (hZf f hf).1.1 rfl rfl rfl (aok0 rfl) dX9_shoot_42 (D_player h hf) rfl ?_
  rw [hc]
  refine K_Vn1r (pc := 45) (k' := (3, 18)) mok_X9_cueHeldBy lk_X9_191 (sh_k hH) rfl rfl rfl (aok0 rfl) dX9_shoot_45 (C_cueHeldN h c8 he) rfl ?_
  refine G_astoreN (pc := 48) dX9_shoot_48 (by decide) ?_
  refine G_aload_n (pc := 50) dX9_shoot_50 rfl ?_
  refine G_getS (pc := 51) fl_X9_55 (sh_k hH) rfl (sh_r8 hH) dX9_shoot_51 ?_
  refine G_aload (pc := 54) dX9_shoot_54 rfl ?_
  refine G_getS (pc := 56) fl_X9_195 (hZf f hf).1.1 rfl (hZf f hf).1.2.1 dX9_shoot_56 ?_
  refine G_iload_n (pc := 59) dX9_shoot_59 rfl ?_
  refine G_aloadN (pc := 60) dX9_shoot_60 rfl ?_
  refine G_iload_n (pc := 62) dX9_shoot_62 rfl ?_
  refine K_Sn2r (pc := 63) (k' := (3, 18)) mok_X9_forceWith lk_X9_198 rfl (aok0 rfl) dX9_shoot_63 (C_forceN z) rfl ?_
  rw [hfo]
  refine K_U3v (pc := 66) (cb := 0) (k' := (3, 18)) mok_X6_run lk_X9_202_0 rfl (sh_c8 hH) rfl rfl (aok0 rfl) dX9_shoot_66 (hT) rfl ?_
  refine G_aloadN (pc := 69) dX9_shoot_69 rfl ?_
  refine G_ifnull_n (pc := 71) (tgt := 80) dX9_shoot_71 (by decide) ?_
  refine G_aload (pc := 80) dX9_shoot_80 rfl ?_
  refine G_aload_n (pc := 82) dX9_shoot_82 rfl ?_
  refine G_getS (pc := 83) fl_X9_55 (sh_k hS1) rfl (sh_r8 hS1) dX9_shoot_83 ?_
  refine K_Vn1r (pc := 86) (k' := (3, 18)) mok_X2_settle lk_X9_211 kf1 rfl rfl rfl (aok0 rfl) dX9_shoot_86 (hE) rfl ?_
  refine G_istore (pc := 89) dX9_shoot_89 (by decide) ?_
  refine G_aload (pc := 91) dX9_shoot_91 rfl ?_
  refine K_Vn0r (pc := 93) (k' := (3, 18)) mok_X2_isOver lk_X9_215 kf3 rfl rfl rfl (aok0 rfl) dX9_shoot_93 (hI) rfl ?_
  refine G_if_eqN (pc := 96) (tgt := 114) (by omega) dX9_shoot_96 (by decide) (fun h => absurd h (by decide)) (fun _ => ?_)
  refine G_aload_n (pc := 99) dX9_shoot_99 rfl ?_
  refine G_aload (pc := 100) dX9_shoot_100 rfl ?_
  refine K_Vn1v (pc := 102) (k' := (3, 18)) mok_X9_countWin lk_X9_218 (sh_k hS3) rfl rfl rfl (aok0 rfl) dX9_shoot_102 (hC) rfl ?_
  refine G_aload_n (pc := 105) dX9_shoot_105 rfl ?_
  refine G_aload (pc := 106) dX9_shoot_106 rfl ?_
  refine G_getS (pc := 108) fl_X9_185 kf4 rfl h25 dX9_shoot_108 ?_
  refine K_Vn1v (pc := 111) (k' := (3, 18)) mok_X9_takeFrameOff lk_X9_125 (sh_k hS4) rfl rfl rfl (aok0 rfl) dX9_shoot_111 (hX) rfl ?_
  refine G_iload (pc := 114) dX9_shoot_114 rfl ?_
  refine G_iret (pc := 116) VZ.x dX9_shoot_116 rfl ⟨by decide, by decide⟩ ?_
  exact ⟨congrArg (fun z => some (Value.int z)) hb, hcd, hq⟩
theorem K_shoot10N {Γ : GTy} {Z : HS} {n : Nat} {P : HS → FT → Prop} {F A : FT} {g : GN} (h : CI n Z F g A) {f d c u : Nat} {z fo v : Int32} (hf : f < g 16 0) (d8 : d < 8) (hz : nI 1 ≤ z ∧ z ≤ nI 40) (ht0 : g 23 f ≠ 0) (ht4 : g 23 f - 1 < 4) (hc : F 111 (2 * f + g 22 f) = nI c) (c8 : c < 8) (hu : u < 6) (he : F 107 u = nI (c + 1)) (hfo : clip1 (z * (nI 200 - F 108 u) / nI 200) = fo) {Z1 Z2 L1 : HS} (hT : Tn Γ M_X6_run [.ref 10, .ref (1200000 + f), .int (nI d), .int fo] Z (rt none Z1)) (kf1 : xK Z1 (200000 + f) = 2) (hS1 : SH Z1) (hW : Tn Γ M_X1_wearOff [.ref (100000 + u), .int z] Z1 (rt none Z2)) (kf2 : xK Z2 (200000 + f) = 2) (hS2 : SH Z2) (hE : Tn Γ M_X2_settle [.ref (200000 + f), .ref 10] Z2 (rt (some (.int v)) L1)) (kf3 : xK L1 (200000 + f) = 2) (hS3 : SH L1) (hI : Tn Γ M_X2_isOver [.ref (200000 + f)] L1 (rt (some (.int (nI 0))) L1)) {F' : FT} {b : Int32} (hb : v = b) (hcd : F' 25 0 = nI 0) (hq : Nx P Z L1 F') : Tt Γ M_X9_shoot [.ref 800000, .int (nI f), .int (nI d), .int z] Z (QVo P Z F' b) (QXo P Z F' [xIO, xIA, xIS]) := by
  refine Tt_of' rfl rfl rfl ?_
  show G Γ M_X9_shoot (rm M_X9_shoot) (Vt Γ M_X9_shoot (QVo P Z F' b) (QXo P Z F' [xIO, xIA, xIS])) (0, 0) 0 [some (.ref 800000), some (.int (nI f)), some (.int (nI d)), some (.int z), none, none, none] [] Z
  have h0 := h
  obtain ⟨hH, ⟨hPI, hPG, hZo⟩, ⟨hZh, hZd, hZw⟩, ⟨hZt, hZc, hZf⟩, ⟨hZr, hZs, hZl⟩, hZfr, hZbd⟩ := h0
  refine G_aload_n (pc := 0) dX9_shoot_0 rfl ?_
  refine G_iload_n (pc := 1) dX9_shoot_1 rfl ?_
  refine K_Vn1r (pc := 2) (k' := (1, 6)) mok_X9_frameAt lk_X9_164 (sh_k hH) rfl rfl rfl (aok0 rfl) dX9_shoot_2 (C_frameAtN hH hf hZh.1.1 hPI.1.2.2 (hZf f hf).2.1 (hZf f hf).1.1) rfl ?_
  refine G_astore (pc := 5) dX9_shoot_5 (by decide) ?_
  refine G_iload_n (pc := 7) dX9_shoot_7 rfl ?_
  refine G_iconst (pc := 8) (v := nI 0) dX9_shoot_8 (by first | rfl | decide) ?_
  refine G_bipush (pc := 9) (v := nI 7) dX9_shoot_9 (by first | rfl | decide) ?_
  refine K_Sn3v (pc := 11) (k' := (2, 12)) mok_X9_requireRange lk_X9_71 rfl (aok0 rfl) dX9_shoot_11 (C_rangeN (inN (by omega) (by decide))) rfl ?_
  refine G_iload_n (pc := 14) dX9_shoot_14 rfl ?_
  refine G_iconst (pc := 15) (v := nI 1) dX9_shoot_15 (by first | rfl | decide) ?_
  refine G_bipush (pc := 16) (v := nI 40) dX9_shoot_16 (by first | rfl | decide) ?_
  refine K_Sn3v (pc := 18) (k' := (3, 18)) mok_X9_requireRange lk_X9_71 rfl (aok0 rfl) dX9_shoot_18 (C_rangeN hz) rfl ?_
  refine G_aload (pc := 21) dX9_shoot_21 rfl ?_
  refine G_getS (pc := 23) fl_X9_185 (hZf f hf).1.1 rfl ((hZf f hf).2.2.2.2.2 ht0) dX9_shoot_23 ?_
  refine G_ifnonnull_r (pc := 26) (tgt := 39) dX9_shoot_26 (by decide) ?_
  refine G_aload_n (pc := 39) dX9_shoot_39 rfl ?_
  refine G_aload (pc := 40) dX9_shoot_40 rfl ?_
  refine K_Vn0r (pc := 42) (k' := (3, 18)) mok_X2_player lk_X9_182 (hZf f hf).1.1 rfl rfl rfl (aok0 rfl) dX9_shoot_42 (D_player h hf) rfl ?_
  rw [hc]
  refine K_Vn1r (pc := 45) (k' := (3, 18)) mok_X9_cueHeldBy lk_X9_191 (sh_k hH) rfl rfl rfl (aok0 rfl) dX9_shoot_45 (C_cueHeldS h c8 hu he) rfl ?_
  refine G_astore (pc := 48) dX9_shoot_48 (by decide) ?_
  refine G_aload_n (pc := 50) dX9_shoot_50 rfl ?_
  refine G_getS (pc := 51) fl_X9_55 (sh_k hH) rfl (sh_r8 hH) dX9_shoot_51 ?_
  refine G_aload (pc := 54) dX9_shoot_54 rfl ?_
  refine G_getS (pc := 56) fl_X9_195 (hZf f hf).1.1 rfl (hZf f hf).1.2.1 dX9_shoot_56 ?_
  refine G_iload_n (pc := 59) dX9_shoot_59 rfl ?_
  refine G_aload (pc := 60) dX9_shoot_60 rfl ?_
  refine G_iload_n (pc := 62) dX9_shoot_62 rfl ?_
  refine K_Sn2r (pc := 63) (k' := (3, 18)) mok_X9_forceWith lk_X9_198 rfl (aok0 rfl) dX9_shoot_63 (C_forceS (hH.2.2.2.1 u hu).1 (hZc u hu).1 z) rfl ?_
  rw [hfo]
  refine K_U3v (pc := 66) (cb := 0) (k' := (3, 18)) mok_X6_run lk_X9_202_0 rfl (sh_c8 hH) rfl rfl (aok0 rfl) dX9_shoot_66 (hT) rfl ?_
  refine G_aload (pc := 69) dX9_shoot_69 rfl ?_
  refine G_ifnull_r (pc := 71) dX9_shoot_71 ?_
  refine G_aload (pc := 74) dX9_shoot_74 rfl ?_
  refine G_iload_n (pc := 76) dX9_shoot_76 rfl ?_
  refine K_Vn1v (pc := 77) (k' := (3, 18)) mok_X1_wearOff lk_X9_208 (hS1.2.2.2.1 u hu).1 rfl rfl rfl (aok0 rfl) dX9_shoot_77 (hW) rfl ?_
  refine G_aload (pc := 80) dX9_shoot_80 rfl ?_
  refine G_aload_n (pc := 82) dX9_shoot_82 rfl ?_
  refine G_getS (pc := 83) fl_X9_55 (sh_k hS2) rfl (sh_r8 hS2) dX9_shoot_83 ?_
  refine K_Vn1r (pc := 86) (k' := (3, 18)) mok_X2_settle lk_X9_211 kf2 rfl rfl rfl (aok0 rfl) dX9_shoot_86 (hE) rfl ?_
  refine G_istore (pc := 89) dX9_shoot_89 (by decide) ?_
  refine G_aload (pc := 91) dX9_shoot_91 rfl ?_
  refine K_Vn0r (pc := 93) (k' := (3, 18)) mok_X2_isOver lk_X9_215 kf3 rfl rfl rfl (aok0 rfl) dX9_shoot_93 (hI) rfl ?_
  refine G_if_eqN (pc := 96) (tgt := 114) (by omega) dX9_shoot_96 (by decide) (fun _ => ?_) (fun h => absurd h (by decide))
  refine G_iload (pc := 114) dX9_shoot_114 rfl ?_
  refine G_iret (pc := 116) VZ.x dX9_shoot_116 rfl ⟨by decide, by decide⟩ ?_
  exact ⟨congrArg (fun z => some (Value.int z)) hb, hcd, hq⟩
theorem K_shoot11N {Γ : GTy} {Z : HS} {n : Nat} {P : HS → FT → Prop} {F A : FT} {g : GN} (h : CI n Z F g A) {f d c u : Nat} {z fo v : Int32} (hf : f < g 16 0) (d8 : d < 8) (hz : nI 1 ≤ z ∧ z ≤ nI 40) (ht0 : g 23 f ≠ 0) (ht4 : g 23 f - 1 < 4) (hc : F 111 (2 * f + g 22 f) = nI c) (c8 : c < 8) (hu : u < 6) (he : F 107 u = nI (c + 1)) (hfo : clip1 (z * (nI 200 - F 108 u) / nI 200) = fo) {Z1 Z2 L1 L2 L3 : HS} (hT : Tn Γ M_X6_run [.ref 10, .ref (1200000 + f), .int (nI d), .int fo] Z (rt none Z1)) (kf1 : xK Z1 (200000 + f) = 2) (hS1 : SH Z1) (hW : Tn Γ M_X1_wearOff [.ref (100000 + u), .int z] Z1 (rt none Z2)) (kf2 : xK Z2 (200000 + f) = 2) (hS2 : SH Z2) (hE : Tn Γ M_X2_settle [.ref (200000 + f), .ref 10] Z2 (rt (some (.int v)) L1)) (kf3 : xK L1 (200000 + f) = 2) (hS3 : SH L1) (hI : Tn Γ M_X2_isOver [.ref (200000 + f)] L1 (rt (some (.int (nI 1))) L1)) (hC : Tn Γ M_X9_countWin [.ref 800000, .ref (200000 + f)] L1 (rt none L2)) (hS4 : SH L2) (kf4 : xK L2 (200000 + f) = 2) (h25 : xR L2 2 5 (200000 + f) = some (700000 + (g 23 f - 1))) (kt4 : xK L2 (700000 + (g 23 f - 1)) = 7) (hX : Tn Γ M_X9_takeFrameOff [.ref 800000, .ref (700000 + (g 23 f - 1))] L2 (rt none L3)) {F' : FT} {b : Int32} (hb : v = b) (hcd : F' 25 0 = nI 0) (hq : Nx P Z L3 F') : Tt Γ M_X9_shoot [.ref 800000, .int (nI f), .int (nI d), .int z] Z (QVo P Z F' b) (QXo P Z F' [xIO, xIA, xIS]) := by
  refine Tt_of' rfl rfl rfl ?_
  show G Γ M_X9_shoot (rm M_X9_shoot) (Vt Γ M_X9_shoot (QVo P Z F' b) (QXo P Z F' [xIO, xIA, xIS])) (0, 0) 0 [some (.ref 800000), some (.int (nI f)), some (.int (nI d)), some (.int z), none, none, none] [] Z
  have h0 := h
  obtain ⟨hH, ⟨hPI, hPG, hZo⟩, ⟨hZh, hZd, hZw⟩, ⟨hZt, hZc, hZf⟩, ⟨hZr, hZs, hZl⟩, hZfr, hZbd⟩ := h0
  refine G_aload_n (pc := 0) dX9_shoot_0 rfl ?_
  refine G_iload_n (pc := 1) dX9_shoot_1 rfl ?_
  refine K_Vn1r (pc := 2) (k' := (1, 6)) mok_X9_frameAt lk_X9_164 (sh_k hH) rfl rfl rfl (aok0 rfl) dX9_shoot_2 (C_frameAtN hH hf hZh.1.1 hPI.1.2.2 (hZf f hf).2.1 (hZf f hf).1.1) rfl ?_
  refine G_astore (pc := 5) dX9_shoot_5 (by decide) ?_
  refine G_iload_n (pc := 7) dX9_shoot_7 rfl ?_
  refine G_iconst (pc := 8) (v := nI 0) dX9_shoot_8 (by first | rfl | decide) ?_
  refine G_bipush (pc := 9) (v := nI 7) dX9_shoot_9 (by first | rfl | decide) ?_
  refine K_Sn3v (pc := 11) (k' := (2, 12)) mok_X9_requireRange lk_X9_71 rfl (aok0 rfl) dX9_shoot_11 (C_rangeN (inN (by omega) (by decide))) rfl ?_
  refine G_iload_n (pc := 14) dX9_shoot_14 rfl ?_
  refine G_iconst (pc := 15) (v := nI 1) dX9_shoot_15 (by first | rfl | decide) ?_
  refine G_bipush (pc := 16) (v := nI 40) dX9_shoot_16 (by first | rfl | decide) ?_
  refine K_Sn3v (pc := 18) (k' := (3, 18)) mok_X9_requireRange lk_X9_71 rfl (aok0 rfl) dX9_shoot_18 (C_rangeN hz) rfl ?_
  refine G_aload (pc := 21) dX9_shoot_21 rfl ?_
  refine G_getS (pc := 23) fl_X9_185 (hZf f hf).1.1 rfl ((hZf f hf).2.2.2.2.2 ht0) dX9_shoot_23 ?_
  refine G_ifnonnull_r (pc := 26) (tgt := 39) dX9_shoot_26 (by decide) ?_
  refine G_aload_n (pc := 39) dX9_shoot_39 rfl ?_
  refine G_aload (pc := 40) dX9_shoot_40 rfl ?_
  refine K_Vn0r (pc := 42) (k' := (3, 18)) mok_X2_player lk_X9_182 (hZf f hf).1.1 rfl rfl rfl (aok0 rfl) dX9_shoot_42 (D_player h hf) rfl ?_
  rw [hc]
  refine K_Vn1r (pc := 45) (k' := (3, 18)) mok_X9_cueHeldBy lk_X9_191 (sh_k hH) rfl rfl rfl (aok0 rfl) dX9_shoot_45 (C_cueHeldS h c8 hu he) rfl ?_
  refine G_astore (pc := 48) dX9_shoot_48 (by decide) ?_
  refine G_aload_n (pc := 50) dX9_shoot_50 rfl ?_
  refine G_getS (pc := 51) fl_X9_55 (sh_k hH) rfl (sh_r8 hH) dX9_shoot_51 ?_
  refine G_aload (pc := 54) dX9_shoot_54 rfl ?_
  refine G_getS (pc := 56) fl_X9_195 (hZf f hf).1.1 rfl (hZf f hf).1.2.1 dX9_shoot_56 ?_
  refine G_iload_n (pc := 59) dX9_shoot_59 rfl ?_
  refine G_aload (pc := 60) dX9_shoot_60 rfl ?_
  refine G_iload_n (pc := 62) dX9_shoot_62 rfl ?_
  refine K_Sn2r (pc := 63) (k' := (3, 18)) mok_X9_forceWith lk_X9_198 rfl (aok0 rfl) dX9_shoot_63 (C_forceS (hH.2.2.2.1 u hu).1 (hZc u hu).1 z) rfl ?_
  rw [hfo]
  refine K_U3v (pc := 66) (cb := 0) (k' := (3, 18)) mok_X6_run lk_X9_202_0 rfl (sh_c8 hH) rfl rfl (aok0 rfl) dX9_shoot_66 (hT) rfl ?_
  refine G_aload (pc := 69) dX9_shoot_69 rfl ?_
  refine G_ifnull_r (pc := 71) dX9_shoot_71 ?_
  refine G_aload (pc := 74) dX9_shoot_74 rfl ?_
  refine G_iload_n (pc := 76) dX9_shoot_76 rfl ?_
  refine K_Vn1v (pc := 77) (k' := (3, 18)) mok_X1_wearOff lk_X9_208 (hS1.2.2.2.1 u hu).1 rfl rfl rfl (aok0 rfl) dX9_shoot_77 (hW) rfl ?_
  refine G_aload (pc := 80) dX9_shoot_80 rfl ?_
  refine G_aload_n (pc := 82) dX9_shoot_82 rfl ?_
  refine G_getS (pc := 83) fl_X9_55 (sh_k hS2) rfl (sh_r8 hS2) dX9_shoot_83 ?_
  refine K_Vn1r (pc := 86) (k' := (3, 18)) mok_X2_settle lk_X9_211 kf2 rfl rfl rfl (aok0 rfl) dX9_shoot_86 (hE) rfl ?_
  refine G_istore (pc := 89) dX9_shoot_89 (by decide) ?_
  refine G_aload (pc := 91) dX9_shoot_91 rfl ?_
  refine K_Vn0r (pc := 93) (k' := (3, 18)) mok_X2_isOver lk_X9_215 kf3 rfl rfl rfl (aok0 rfl) dX9_shoot_93 (hI) rfl ?_
  refine G_if_eqN (pc := 96) (tgt := 114) (by omega) dX9_shoot_96 (by decide) (fun h => absurd h (by decide)) (fun _ => ?_)
  refine G_aload_n (pc := 99) dX9_shoot_99 rfl ?_
  refine G_aload (pc := 100) dX9_shoot_100 rfl ?_
  refine K_Vn1v (pc := 102) (k' := (3, 18)) mok_X9_countWin lk_X9_218 (sh_k hS3) rfl rfl rfl (aok0 rfl) dX9_shoot_102 (hC) rfl ?_
  refine G_aload_n (pc := 105) dX9_shoot_105 rfl ?_
  refine G_aload (pc := 106) dX9_shoot_106 rfl ?_
  refine G_getS (pc := 108) fl_X9_185 kf4 rfl h25 dX9_shoot_108 ?_
  refine K_Vn1v (pc := 111) (k' := (3, 18)) mok_X9_takeFrameOff lk_X9_125 (sh_k hS4) rfl rfl rfl (aok0 rfl) dX9_shoot_111 (hX) rfl ?_
  refine G_iload (pc := 114) dX9_shoot_114 rfl ?_
  refine G_iret (pc := 116) VZ.x dX9_shoot_116 rfl ⟨by decide, by decide⟩ ?_
  exact ⟨congrArg (fun z => some (Value.int z)) hb, hcd, hq⟩
theorem K_shootX {Γ : GTy} {Z : HS} {n : Nat} {P : HS → FT → Prop} {F A : FT} {g : GN} (h : CI n Z F g A) {x y z : Int32} (hx : ¬ (nI 0 ≤ x ∧ x ≤ nI (g 16 0) - nI 1)) {F' : FT} {b : Int32} (hcd : F' 25 0 = nI 1) (hq : Nx P Z Z F') : Tt Γ M_X9_shoot [.ref 800000, .int x, .int y, .int z] Z (QVo P Z F' b) (QXo P Z F' [xIO, xIA, xIS]) := by
  refine Tt_of' rfl rfl rfl ?_
  show G Γ M_X9_shoot (rm M_X9_shoot) (Vt Γ M_X9_shoot (QVo P Z F' b) (QXo P Z F' [xIO, xIA, xIS])) (0, 0) 0 [some (.ref 800000), some (.int x), some (.int y), some (.int z), none, none, none] [] Z
  have h0 := h
  obtain ⟨hH, ⟨hPI, hPG, hZo⟩, ⟨hZh, hZd, hZw⟩, ⟨hZt, hZc, hZf⟩, ⟨hZr, hZs, hZl⟩, hZfr, hZbd⟩ := h0
  refine G_aload_n (pc := 0) dX9_shoot_0 rfl ?_
  refine G_iload_n (pc := 1) dX9_shoot_1 rfl ?_
  refine K_V1 (pc := 2) (k' := (1, 6)) mok_X9_frameAt lk_X9_164 (sh_k hH) rfl rfl rfl (aok0 rfl) dX9_shoot_2 (C_frameAtX hH hZh.1.1 hPI.1.2.2 hx) rfl (fun v1 Y1 q1 => ?_) (fun E1 Y1 q1 => ?_)
  · exact q1.elim
  · (obtain ⟨rfl, rfl⟩ := q1; exact GX_out rfl ⟨by decide, by decide⟩ ⟨0, rfl, hcd, hq⟩)
theorem K_shootY {Γ : GTy} {Z : HS} {n : Nat} {P : HS → FT → Prop} {F A : FT} {g : GN} (h : CI n Z F g A) {f : Nat} {y z : Int32} (hf : f < g 16 0) (hy : ¬ (nI 0 ≤ y ∧ y ≤ nI 7)) {F' : FT} {b : Int32} (hcd : F' 25 0 = nI 2) (hq : Nx P Z Z F') : Tt Γ M_X9_shoot [.ref 800000, .int (nI f), .int y, .int z] Z (QVo P Z F' b) (QXo P Z F' [xIO, xIA, xIS]) := by
  refine Tt_of' rfl rfl rfl ?_
  show G Γ M_X9_shoot (rm M_X9_shoot) (Vt Γ M_X9_shoot (QVo P Z F' b) (QXo P Z F' [xIO, xIA, xIS])) (0, 0) 0 [some (.ref 800000), some (.int (nI f)), some (.int y), some (.int z), none, none, none] [] Z
  have h0 := h
  obtain ⟨hH, ⟨hPI, hPG, hZo⟩, ⟨hZh, hZd, hZw⟩, ⟨hZt, hZc, hZf⟩, ⟨hZr, hZs, hZl⟩, hZfr, hZbd⟩ := h0
  refine G_aload_n (pc := 0) dX9_shoot_0 rfl ?_
  refine G_iload_n (pc := 1) dX9_shoot_1 rfl ?_
  refine K_Vn1r (pc := 2) (k' := (1, 6)) mok_X9_frameAt lk_X9_164 (sh_k hH) rfl rfl rfl (aok0 rfl) dX9_shoot_2 (C_frameAtN hH hf hZh.1.1 hPI.1.2.2 (hZf f hf).2.1 (hZf f hf).1.1) rfl ?_
  refine G_astore (pc := 5) dX9_shoot_5 (by decide) ?_
  refine G_iload_n (pc := 7) dX9_shoot_7 rfl ?_
  refine G_iconst (pc := 8) (v := nI 0) dX9_shoot_8 (by first | rfl | decide) ?_
  refine G_bipush (pc := 9) (v := nI 7) dX9_shoot_9 (by first | rfl | decide) ?_
  refine K_S3 (pc := 11) (k' := (2, 12)) mok_X9_requireRange lk_X9_71 rfl (aok0 rfl) dX9_shoot_11 (C_rangeX hy) rfl (fun v1 Y1 q1 => ?_) (fun E1 Y1 q1 => ?_)
  · exact q1.elim
  · (obtain ⟨rfl, rfl⟩ := q1; exact GX_out rfl ⟨by decide, by decide⟩ ⟨1, rfl, hcd, hq⟩)
theorem K_shootZ {Γ : GTy} {Z : HS} {n : Nat} {P : HS → FT → Prop} {F A : FT} {g : GN} (h : CI n Z F g A) {f d : Nat} {z : Int32} (hf : f < g 16 0) (d8 : d < 8) (hz : ¬ (nI 1 ≤ z ∧ z ≤ nI 40)) {F' : FT} {b : Int32} (hcd : F' 25 0 = nI 2) (hq : Nx P Z Z F') : Tt Γ M_X9_shoot [.ref 800000, .int (nI f), .int (nI d), .int z] Z (QVo P Z F' b) (QXo P Z F' [xIO, xIA, xIS]) := by
  refine Tt_of' rfl rfl rfl ?_
  show G Γ M_X9_shoot (rm M_X9_shoot) (Vt Γ M_X9_shoot (QVo P Z F' b) (QXo P Z F' [xIO, xIA, xIS])) (0, 0) 0 [some (.ref 800000), some (.int (nI f)), some (.int (nI d)), some (.int z), none, none, none] [] Z
  have h0 := h
  obtain ⟨hH, ⟨hPI, hPG, hZo⟩, ⟨hZh, hZd, hZw⟩, ⟨hZt, hZc, hZf⟩, ⟨hZr, hZs, hZl⟩, hZfr, hZbd⟩ := h0
  refine G_aload_n (pc := 0) dX9_shoot_0 rfl ?_
  refine G_iload_n (pc := 1) dX9_shoot_1 rfl ?_
  refine K_Vn1r (pc := 2) (k' := (1, 6)) mok_X9_frameAt lk_X9_164 (sh_k hH) rfl rfl rfl (aok0 rfl) dX9_shoot_2 (C_frameAtN hH hf hZh.1.1 hPI.1.2.2 (hZf f hf).2.1 (hZf f hf).1.1) rfl ?_
  refine G_astore (pc := 5) dX9_shoot_5 (by decide) ?_
  refine G_iload_n (pc := 7) dX9_shoot_7 rfl ?_
  refine G_iconst (pc := 8) (v := nI 0) dX9_shoot_8 (by first | rfl | decide) ?_
  refine G_bipush (pc := 9) (v := nI 7) dX9_shoot_9 (by first | rfl | decide) ?_
  refine K_Sn3v (pc := 11) (k' := (2, 12)) mok_X9_requireRange lk_X9_71 rfl (aok0 rfl) dX9_shoot_11 (C_rangeN (inN (by omega) (by decide))) rfl ?_
  refine G_iload_n (pc := 14) dX9_shoot_14 rfl ?_
  refine G_iconst (pc := 15) (v := nI 1) dX9_shoot_15 (by first | rfl | decide) ?_
  refine G_bipush (pc := 16) (v := nI 40) dX9_shoot_16 (by first | rfl | decide) ?_
  refine K_S3 (pc := 18) (k' := (3, 18)) mok_X9_requireRange lk_X9_71 rfl (aok0 rfl) dX9_shoot_18 (C_rangeX hz) rfl (fun v1 Y1 q1 => ?_) (fun E1 Y1 q1 => ?_)
  · exact q1.elim
  · (obtain ⟨rfl, rfl⟩ := q1; exact GX_out rfl ⟨by decide, by decide⟩ ⟨1, rfl, hcd, hq⟩)
theorem K_shootV {Γ : GTy} {Z : HS} {n : Nat} {P : HS → FT → Prop} {F A : FT} {g : GN} (h : CI n Z F g A) {f d : Nat} {z : Int32} (hf : f < g 16 0) (d8 : d < 8) (hz : nI 1 ≤ z ∧ z ≤ nI 40) (ht0 : g 23 f = 0) {F' : FT} {b : Int32} (hcd : F' 25 0 = nI 3) (hq : Nx P Z Z F') : Tt Γ M_X9_shoot [.ref 800000, .int (nI f), .int (nI d), .int z] Z (QVo P Z F' b) (QXo P Z F' [xIO, xIA, xIS]) := by
  refine Tt_of' rfl rfl rfl ?_
  show G Γ M_X9_shoot (rm M_X9_shoot) (Vt Γ M_X9_shoot (QVo P Z F' b) (QXo P Z F' [xIO, xIA, xIS])) (0, 0) 0 [some (.ref 800000), some (.int (nI f)), some (.int (nI d)), some (.int z), none, none, none] [] Z
  have h0 := h
  obtain ⟨hH, ⟨hPI, hPG, hZo⟩, ⟨hZh, hZd, hZw⟩, ⟨hZt, hZc, hZf⟩, ⟨hZr, hZs, hZl⟩, hZfr, hZbd⟩ := h0
  refine G_aload_n (pc := 0) dX9_shoot_0 rfl ?_
  refine G_iload_n (pc := 1) dX9_shoot_1 rfl ?_
  refine K_Vn1r (pc := 2) (k' := (1, 6)) mok_X9_frameAt lk_X9_164 (sh_k hH) rfl rfl rfl (aok0 rfl) dX9_shoot_2 (C_frameAtN hH hf hZh.1.1 hPI.1.2.2 (hZf f hf).2.1 (hZf f hf).1.1) rfl ?_
  refine G_astore (pc := 5) dX9_shoot_5 (by decide) ?_
  refine G_iload_n (pc := 7) dX9_shoot_7 rfl ?_
  refine G_iconst (pc := 8) (v := nI 0) dX9_shoot_8 (by first | rfl | decide) ?_
  refine G_bipush (pc := 9) (v := nI 7) dX9_shoot_9 (by first | rfl | decide) ?_
  refine K_Sn3v (pc := 11) (k' := (2, 12)) mok_X9_requireRange lk_X9_71 rfl (aok0 rfl) dX9_shoot_11 (C_rangeN (inN (by omega) (by decide))) rfl ?_
  refine G_iload_n (pc := 14) dX9_shoot_14 rfl ?_
  refine G_iconst (pc := 15) (v := nI 1) dX9_shoot_15 (by first | rfl | decide) ?_
  refine G_bipush (pc := 16) (v := nI 40) dX9_shoot_16 (by first | rfl | decide) ?_
  refine K_Sn3v (pc := 18) (k' := (3, 18)) mok_X9_requireRange lk_X9_71 rfl (aok0 rfl) dX9_shoot_18 (C_rangeN hz) rfl ?_
  refine G_aload (pc := 21) dX9_shoot_21 rfl ?_
  refine G_getN (pc := 23) fl_X9_185 (hZf f hf).1.1 rfl ((hZf f hf).2.2.2.2.1 ht0) dX9_shoot_23 ?_
  refine G_ifnonnull_n (pc := 26) dX9_shoot_26 ?_
  refine G_throw (pc := 29)  tw_X9_189 rfl dX9_shoot_29 dX9_shoot_32 dX9_shoot_33 dX9_shoot_35 dX9_shoot_38 ⟨by decide, Nat.le_of_ble_eq_true rfl, by decide, by decide⟩ ⟨by decide, by decide⟩ ?_
  exact ⟨2, rfl, hcd, hq⟩
theorem RO_sI1 {Z : HS} {W : FT} {k a : Nat} {x : Int32} (h : RO Z W) : RO (sI Z 1 k a x) W := by
  obtain ⟨h1, h2, h3, h4, h5, h6, h7, h8, h9⟩ := h
  exact ⟨h1, h2, h3, h4, h5, h6, h7, h8, (xI_sI (fun w => absurd w.1 (by decide))).trans h9⟩
theorem shE_25 {V : FT} {f u : Nat} {on : Int32} (h : V 25 0 = nI 0) : (mShE V f u on).2 25 0 = nI 0 := by
  have hk : kF V f 8 25 0 = nI 0 := (kF_o (by decide)).trans h
  have h1 : (mFouls (kF V f 8) f u on).2 25 0 = nI 0 := by
    have hD : (mFouls (kF V f 8) f u on).2 = u2 (fF2 (kF V f 8) f u on) 116 f (b2 (allB (hidP (fF2 (kF V f 8) f u on) (lowF (fF2 (kF V f 8) f u on) f)) 8 = true)) := rfl
    rw [hD, u2_s (by decide)]
    unfold fF2
    rw [u2_s (by decide), u2_s (by decide), fF_o (by decide)]
    exact hk
  have h2 : (mScores (kF V f 8) f u).2 25 0 = nI 0 := by
    have x25 : mSc1 (kF V f 8) f u 25 0 = nI 0 := by
      unfold mSc1
      rw [u2_s (by decide), u2_s (by decide)]
      exact hk
    show (if _ then (if _ then _ else _) else _ : FT) 25 0 = nI 0
    split
    · split
      · rw [u2_s (by decide)]; exact x25
      · exact x25
    · unfold mOver
      rw [hF_o (Or.inl (by decide)), u2_s (by decide), u2_s (by decide)]
      exact x25
  unfold mShE
  split
  · exact h1
  · split
    · exact h1
    · split
      · exact h2
      · split
        · exact h1
        · exact h2
