-- ===== begin =====
theorem C_frameInit {Γ : GTy} {Z : HS} {p e : Nat} {m a c z : Int32} (hG : GS Γ) (hk : xK Z p = 2) (he : xK Z e = 99) (hpe : p < e) (he9 : e < 1000000000) (hz : z = 0 ∨ z = 1) : Tn Γ M_X2_init [.ref p, .int m, .int a, .int c, .int z] Z (rt none (fnZ Z p e (gt Γ 0).2.2 m a c z)) := by
  refine Tn_of' rfl rfl rfl ?_
  show G Γ M_X2_init (rm M_X2_init) (Vn Γ M_X2_init (rt none (fnZ Z p e (gt Γ 0).2.2 m a c z))) (0, 0) 0 [some (.ref p), some (.int m), some (.int a), some (.int c), some (.int z)] [] Z
  have hkp : xK (nA Z e 10 8 (gt Γ 0).2.2) p = 2 := (va_up_ne _ _ (by omega)).trans hk
  refine G_aload_n (pc := 0) dX2_init_0 rfl ?_
  refine G_objInit (pc := 1) lo_X2_3 wIO ⟨by decide, Nat.le_of_ble_eq_true rfl⟩ dX2_init_1 ?_
  refine G_aload_n (pc := 4) dX2_init_4 rfl ?_
  refine G_getst (pc := 5) (i := 0) (by decide) ls_X2_9 dX2_init_5 ?_
  refine G_clone (pc := 8) (i := 0) e rfl he (by omega) ⟨fr1 (by omega) (show _ ∉ ([] : List Nat) from List.not_mem_nil), fr1 (by omega) (show _ ∉ ([] : List Nat) from List.not_mem_nil)⟩ (by decide) lc_X2_13 wclone ⟨by decide, Nat.le_of_ble_eq_true rfl⟩ ⟨by decide, by show 0 + (gt Γ 0).2.1 ≤ _; rw [hG.1.1]; decide⟩ dX2_init_8 ?_
  rw [hG.1.1]
  show G _ _ _ _ (1, 8) _ _ _ _
  refine G_castI (pc := 11) (va_up_self _ _ _) cl_X2_14 dX2_init_11 ?_
  refine G_putAF (pc := 14) (o := some _) rfl (fun _ h => by cases h; exact (show xK (nA Z e 10 8 (gt Γ 0).2.2) e ≠ 99 by rw [show xK (nA Z e 10 8 (gt Γ 0).2.2) e = 10 from va_up_self _ _ _]; decide)) fl_X2_18 ff_X2_2_4 rfl hkp rfl dX2_init_14 ?_
  refine G_aload_n (pc := 17) dX2_init_17 rfl ?_
  refine G_iconst (pc := 18) (v := -1) dX2_init_18 (by first | rfl | decide) ?_
  refine G_putI (pc := 19) fl_X2_23 fw_2_10 hkp rfl dX2_init_19 ?_
  refine G_aload_n (pc := 22) dX2_init_22 rfl ?_
  refine G_iload_n (pc := 23) dX2_init_23 rfl ?_
  refine G_putIF (pc := 24) fl_X2_27 ff_X2_2_0 rfl hkp rfl dX2_init_24 ?_
  refine G_aload_n (pc := 27) dX2_init_27 rfl ?_
  refine G_iload_n (pc := 28) dX2_init_28 rfl ?_
  refine G_putIF (pc := 29) fl_X2_30 ff_X2_2_1 rfl hkp rfl dX2_init_29 ?_
  refine G_aload_n (pc := 32) dX2_init_32 rfl ?_
  refine G_iload_n (pc := 33) dX2_init_33 rfl ?_
  refine G_putIF (pc := 34) fl_X2_33 ff_X2_2_2 rfl hkp rfl dX2_init_34 ?_
  refine G_aload_n (pc := 37) dX2_init_37 rfl ?_
  refine G_iload (pc := 38) dX2_init_38 rfl ?_
  refine G_putZF (pc := 40) fl_X2_36 ff_X2_2_3 rfl hkp rfl hz dX2_init_40 ?_
  refine G_vret (pc := 43) VZ.n dX2_init_43 rfl ⟨by decide, by decide⟩ ?_
  exact ⟨rfl, rfl⟩
theorem K_beginN {Γ : GTy} {Z : HS} {n : Nat} {P : HS → FT → Prop} {F A : FT} {g : GN} (h : CI n Z F g A) {t a c : Nat} {z : Int32} (hG : GS Γ) (ht : t < 4) (ha : a < 8) (hc : c < 8) (hz : z = 0 ∨ z = 1) (hab : a ≠ c) (h20 : g 16 0 < 20) (ho : F 102 t = 0) (hg : g 1 t = 0) (hp : (¬ z = 0 ∨ (F 103 t = nI (a + 1) ∨ F 103 t = nI (c + 1)))) {L : HS} (hSW : SH (sI (sP (fnZ (nO Z (200000 + g 16 0) 2) (200000 + g 16 0) (1200000 + g 16 0) (gt Γ 0).2.2 (nI (g 16 0)) (nI a) (nI c) z) 1800002 (g 16 0) (some (200000 + g 16 0))) 8 10 800000 (nI (g 16 0 + 1)))) (hT : Tn Γ M_X9_putFrameOn [.ref 800000, .ref (200000 + g 16 0), .ref (700000 + t), .int (nI t)] (sI (sP (fnZ (nO Z (200000 + g 16 0) 2) (200000 + g 16 0) (1200000 + g 16 0) (gt Γ 0).2.2 (nI (g 16 0)) (nI a) (nI c) z) 1800002 (g 16 0) (some (200000 + g 16 0))) 8 10 800000 (nI (g 16 0 + 1))) (rt none L)) (hkL : xK L (200000 + g 16 0) = 2) (hnL : xI L 2 0 (200000 + g 16 0) = nI (g 16 0)) {F' : FT} {b : Int32} (hb : nI (g 16 0) = b) (hcd : F' 25 0 = nI 0) (hq : Nx P Z L F') : Tt Γ M_X9_begin [.ref 800000, .int (nI t), .int (nI a), .int (nI c), .int z] Z (QVo P Z F' b) (QXo P Z F' [xIO, xIA, xIS]) := by
  refine Tt_of' rfl rfl rfl ?_
  show G Γ M_X9_begin (rm M_X9_begin) (Vt Γ M_X9_begin (QVo P Z F' b) (QXo P Z F' [xIO, xIA, xIS])) (0, 0) 0 [some (.ref 800000), some (.int (nI t)), some (.int (nI a)), some (.int (nI c)), some (.int z), none, none] [] Z
  have h0 := h
  obtain ⟨hH, ⟨hPI, hPG, hZo⟩, ⟨hZh, hZd, hZw⟩, ⟨hZt, hZc, hZf⟩, ⟨hZr, hZs, hZl⟩, hZfr, hZbd⟩ := h0
  have q99 := hZfr.1 (g 16 0) (Nat.le_refl _) (by omega)
  have ag1 : AG Z (nO Z (200000 + g 16 0) 2) := (AG.refl Z).nX q99.1
  obtain ⟨kN1, ⟨k1h, -, -⟩, -⟩ := agCJ ag1 h
  have kp1 : xK (nO Z (200000 + g 16 0) 2) (200000 + g 16 0) = 2 := va_up_self _ _ _
  have kt1 := (kN1.2.2.1 t ht).1
  have ke1 : xK (nO Z (200000 + g 16 0) 2) (1200000 + g 16 0) = 99 := (va_up_ne _ _ (by omega)).trans q99.2
  have ag2 : AG Z (fnZ (nO Z (200000 + g 16 0) 2) (200000 + g 16 0) (1200000 + g 16 0) (gt Γ 0).2.2 (nI (g 16 0)) (nI a) (nI c) z) := fnZ_AG q99.1 q99.2
  obtain ⟨kN2, ⟨k2h, -, -⟩, -⟩ := agCJ ag2 h
  have kp2 : xK (fnZ (nO Z (200000 + g 16 0) 2) (200000 + g 16 0) (1200000 + g 16 0) (gt Γ 0).2.2 (nI (g 16 0)) (nI a) (nI c) z) (200000 + g 16 0) = 2 := (va_up_ne _ _ (by omega)).trans (va_up_self _ _ _)
  have kt2 := (kN2.2.2.1 t ht).1
  have kN25 : SH (sP (fnZ (nO Z (200000 + g 16 0) 2) (200000 + g 16 0) (1200000 + g 16 0) (gt Γ 0).2.2 (nI (g 16 0)) (nI a) (nI c) z) 1800002 (g 16 0) (some (200000 + g 16 0))) := SH_t kN2 (by rw [xK_sP']) (by rw [xn_sP']) (fun c k a hc => by rw [xR_sP']) (fun a i ha => by rw [xP_sP (by omega)])
  have k91 : xI (sP (fnZ (nO Z (200000 + g 16 0) 2) (200000 + g 16 0) (1200000 + g 16 0) (gt Γ 0).2.2 (nI (g 16 0)) (nI a) (nI c) z) 1800002 (g 16 0) (some (200000 + g 16 0))) 8 10 800000 = nI (g 16 0) := by rw [xI_sP']; exact k2h.1.1
  have w8 : xK (sI (sP (fnZ (nO Z (200000 + g 16 0) 2) (200000 + g 16 0) (1200000 + g 16 0) (gt Γ 0).2.2 (nI (g 16 0)) (nI a) (nI c) z) 1800002 (g 16 0) (some (200000 + g 16 0))) 8 10 800000 (nI (g 16 0 + 1))) 800000 = 8 := by rw [xK_sI', xK_sP']; exact sh_k kN2
  have wt : xK (sI (sP (fnZ (nO Z (200000 + g 16 0) 2) (200000 + g 16 0) (1200000 + g 16 0) (gt Γ 0).2.2 (nI (g 16 0)) (nI a) (nI c) z) 1800002 (g 16 0) (some (200000 + g 16 0))) 8 10 800000 (nI (g 16 0 + 1))) (700000 + t) = 7 := by rw [xK_sI', xK_sP']; exact kt2
  have wp : xK (sI (sP (fnZ (nO Z (200000 + g 16 0) 2) (200000 + g 16 0) (1200000 + g 16 0) (gt Γ 0).2.2 (nI (g 16 0)) (nI a) (nI c) z) 1800002 (g 16 0) (some (200000 + g 16 0))) 8 10 800000 (nI (g 16 0 + 1))) (200000 + g 16 0) = 2 := by rw [xK_sI', xK_sP']; exact kp2
  refine G_aload_n (pc := 0) dX9_begin_0 rfl ?_
  refine G_iload_n (pc := 1) dX9_begin_1 rfl ?_
  refine K_Vn1r (pc := 2) (k' := (1, 6)) mok_X9_tableAt lk_X9_75 (sh_k hH) rfl rfl rfl (aok0 rfl) dX9_begin_2 (C_tableAtN hH ht) rfl ?_
  refine G_astore (pc := 5) dX9_begin_5 (by decide) ?_
  refine G_iload_n (pc := 7) dX9_begin_7 rfl ?_
  refine K_Sn1v (pc := 8) (k' := (2, 12)) mok_X9_requireCustomer lk_X9_79 rfl (aok0 rfl) dX9_begin_8 (C_custN ha) rfl ?_
  refine G_iload_n (pc := 11) dX9_begin_11 rfl ?_
  refine K_Sn1v (pc := 12) (k' := (3, 18)) mok_X9_requireCustomer lk_X9_79 rfl (aok0 rfl) dX9_begin_12 (C_custN hc) rfl ?_
  refine G_iload_n (pc := 15) dX9_begin_15 rfl ?_
  refine G_iload_n (pc := 16) dX9_begin_16 rfl ?_
  refine G_icmp_neN (pc := 17) (tgt := 30) (by omega) (by omega) dX9_begin_17 (by decide) (fun c17 => ?_) (fun c17 => ?_)
  · skip
    refine G_aload_n (pc := 30) dX9_begin_30 rfl ?_
    refine G_getIv (pc := 31) (c := 8) (i := 10) (v := nI (g 16 0)) hZh.1.1 fl_X9_145 (sh_k hH) rfl dX9_begin_31 ?_
    refine G_aload_n (pc := 34) dX9_begin_34 rfl ?_
    refine G_getS (pc := 35) fl_X9_23 (sh_k hH) rfl (sh_r2 hH) dX9_begin_35 ?_
    refine G_alen (pc := 38) (v := nI 20) (sh_c2 hH) (by decide) (congrArg nI (sh_n2 hH)) dX9_begin_38 ?_
    refine G_icmp_ltN (pc := 39) (tgt := 52) (by omega) (by omega) dX9_begin_39 (by decide) (fun c39 => ?_) (fun c39 => ?_)
    · skip
      refine G_aload (pc := 52) dX9_begin_52 rfl ?_
      refine G_iload (pc := 54) dX9_begin_54 rfl ?_
      refine G_iload_n (pc := 56) dX9_begin_56 rfl ?_
      refine G_iload_n (pc := 57) dX9_begin_57 rfl ?_
      refine K_Sn4v (pc := 58) (k' := (5, 30)) mok_X9_requirePlace lk_X9_150 rfl (aok0 rfl) dX9_begin_58 (C_placeN h ht ha hc ho hg hp) rfl ?_
      refine G_new (pc := 61) (c := 2) (200000 + g 16 0) rfl q99.1 (by first | decide | omega) ⟨fr1 (by omega) (fr1 (by omega) (show _ ∉ ([] : List Nat) from List.not_mem_nil)), (show _ ∉ ([] : List Nat) from List.not_mem_nil)⟩ (by decide) cl_X9_21 wN_2.1 wN_2.2 ⟨by decide, by decide⟩ dX9_begin_61 ?_
      refine G_dup (pc := 64) dX9_begin_64 rfl ?_
      refine G_aload_n (pc := 65) dX9_begin_65 rfl ?_
      refine G_getIv (pc := 66) (c := 8) (i := 10) (v := nI (g 16 0)) k1h.1.1 fl_X9_145 (sh_k kN1) rfl dX9_begin_66 ?_
      refine G_iload_n (pc := 69) dX9_begin_69 rfl ?_
      refine G_iload_n (pc := 70) dX9_begin_70 rfl ?_
      refine G_iload (pc := 71) dX9_begin_71 rfl ?_
      refine K_I4v (pc := 73) (k' := (7, 49)) mok_X2_init lk_X9_154 rfl (fun _ => ⟨rfl, aokL [800000, 700000 + t] (by intro r hr; exact hr) (by intro r hr; simp only [List.mem_cons, List.not_mem_nil, or_false] at hr; rcases hr with rfl | rfl; exact (by rw [sh_k kN1]; decide); exact (by rw [kt1]; decide)), aokL [200000 + g 16 0] (by intro r hr; exact hr) (by intro r hr; rw [List.mem_singleton.mp hr]; exact (by rw [kp1]; decide))⟩) dX9_begin_73 (C_frameInit hG kp1 ke1 (by omega) (by omega) hz) rfl ?_
      refine G_astore (pc := 76) dX9_begin_76 (by decide) ?_
      refine G_aload_n (pc := 78) dX9_begin_78 rfl ?_
      refine G_getS (pc := 79) fl_X9_23 (sh_k kN2) rfl (sh_r2 kN2) dX9_begin_79 ?_
      refine G_aload_n (pc := 82) dX9_begin_82 rfl ?_
      refine G_getIv (pc := 83) (c := 8) (i := 10) (v := nI (g 16 0)) k2h.1.1 fl_X9_145 (sh_k kN2) rfl dX9_begin_83 ?_
      refine G_aload (pc := 86) dX9_begin_86 rfl ?_
      refine G_aast (pc := 88) (j := (g 16 0)) (sh_c2 kN2) (by decide) rfl (Nat.lt_of_lt_of_eq (show g 16 0 < 20 by omega) (sh_n2 kN2).symm) (by omega) kp2 (by decide) rfl dX9_begin_88 ?_
      refine G_aload_n (pc := 89) dX9_begin_89 rfl ?_
      refine G_dup (pc := 90) dX9_begin_90 rfl ?_
      refine G_getIv (pc := 91) (c := 8) (i := 10) (v := nI (g 16 0)) k91 fl_X9_145 (sh_k kN25) rfl dX9_begin_91 ?_
      refine G_iconst (pc := 94) (v := nI 1) dX9_begin_94 (by first | rfl | decide) ?_
      refine G_iaddN (pc := 95) dX9_begin_95 ?_
      refine G_putI (pc := 96) fl_X9_145 fw_8_10 (sh_k kN25) rfl dX9_begin_96 ?_
      refine G_aload_n (pc := 99) dX9_begin_99 rfl ?_
      refine G_aload (pc := 100) dX9_begin_100 rfl ?_
      refine G_aload (pc := 102) dX9_begin_102 rfl ?_
      refine G_iload_n (pc := 104) dX9_begin_104 rfl ?_
      refine K_Vn3v (pc := 105) (k' := (8, 52)) mok_X9_putFrameOn lk_X9_157 (sh_k hSW) rfl rfl rfl (fun _ => ⟨rfl, aokL [800000, 700000 + t, 200000 + g 16 0] (by intro r hr; exact hr) (by intro r hr; simp only [List.mem_cons, List.not_mem_nil, or_false] at hr; rcases hr with rfl | rfl | rfl; exact (by rw [w8]; decide); exact (by rw [wt]; decide); exact (by rw [wp]; decide)), fun r hr => absurd hr List.not_mem_nil⟩) dX9_begin_105 (hT) rfl ?_
      refine G_aload (pc := 108) dX9_begin_108 rfl ?_
      refine G_getIv (pc := 110) (c := 2) (i := 0) (v := nI (g 16 0)) hnL fl_X9_161 hkL rfl dX9_begin_110 ?_
      refine G_iret (pc := 113) VZ.x dX9_begin_113 rfl ⟨by decide, by decide⟩ ?_
      exact ⟨congrArg (fun z => some (Value.int z)) hb, hcd, hq⟩
    · omega
  · exact absurd c17 hab
theorem K_beginX {Γ : GTy} {Z : HS} {n : Nat} {P : HS → FT → Prop} {F A : FT} {g : GN} (h : CI n Z F g A) {x y y2 z : Int32} (hx : ¬ (nI 0 ≤ x ∧ x ≤ nI 3)) {F' : FT} {b : Int32} (hcd : F' 25 0 = nI 1) (hq : Nx P Z Z F') : Tt Γ M_X9_begin [.ref 800000, .int x, .int y, .int y2, .int z] Z (QVo P Z F' b) (QXo P Z F' [xIO, xIA, xIS]) := by
  refine Tt_of' rfl rfl rfl ?_
  show G Γ M_X9_begin (rm M_X9_begin) (Vt Γ M_X9_begin (QVo P Z F' b) (QXo P Z F' [xIO, xIA, xIS])) (0, 0) 0 [some (.ref 800000), some (.int x), some (.int y), some (.int y2), some (.int z), none, none] [] Z
  have h0 := h
  obtain ⟨hH, ⟨hPI, hPG, hZo⟩, ⟨hZh, hZd, hZw⟩, ⟨hZt, hZc, hZf⟩, ⟨hZr, hZs, hZl⟩, hZfr, hZbd⟩ := h0
  refine G_aload_n (pc := 0) dX9_begin_0 rfl ?_
  refine G_iload_n (pc := 1) dX9_begin_1 rfl ?_
  refine K_V1 (pc := 2) (k' := (1, 6)) mok_X9_tableAt lk_X9_75 (sh_k hH) rfl rfl rfl (aok0 rfl) dX9_begin_2 (C_tableAtX hH hx) rfl (fun v1 Y1 q1 => ?_) (fun E1 Y1 q1 => ?_)
  · exact q1.elim
  · (obtain ⟨rfl, rfl⟩ := q1; exact GX_out rfl ⟨by decide, by decide⟩ ⟨0, rfl, hcd, hq⟩)
theorem K_beginY {Γ : GTy} {Z : HS} {n : Nat} {P : HS → FT → Prop} {F A : FT} {g : GN} (h : CI n Z F g A) {t : Nat} {y y2 z : Int32} (ht : t < 4) (hy : ¬ (nI 0 ≤ y ∧ y ≤ nI 7)) {F' : FT} {b : Int32} (hcd : F' 25 0 = nI 1) (hq : Nx P Z Z F') : Tt Γ M_X9_begin [.ref 800000, .int (nI t), .int y, .int y2, .int z] Z (QVo P Z F' b) (QXo P Z F' [xIO, xIA, xIS]) := by
  refine Tt_of' rfl rfl rfl ?_
  show G Γ M_X9_begin (rm M_X9_begin) (Vt Γ M_X9_begin (QVo P Z F' b) (QXo P Z F' [xIO, xIA, xIS])) (0, 0) 0 [some (.ref 800000), some (.int (nI t)), some (.int y), some (.int y2), some (.int z), none, none] [] Z
  have h0 := h
  obtain ⟨hH, ⟨hPI, hPG, hZo⟩, ⟨hZh, hZd, hZw⟩, ⟨hZt, hZc, hZf⟩, ⟨hZr, hZs, hZl⟩, hZfr, hZbd⟩ := h0
  refine G_aload_n (pc := 0) dX9_begin_0 rfl ?_
  refine G_iload_n (pc := 1) dX9_begin_1 rfl ?_
  refine K_Vn1r (pc := 2) (k' := (1, 6)) mok_X9_tableAt lk_X9_75 (sh_k hH) rfl rfl rfl (aok0 rfl) dX9_begin_2 (C_tableAtN hH ht) rfl ?_
  refine G_astore (pc := 5) dX9_begin_5 (by decide) ?_
  refine G_iload_n (pc := 7) dX9_begin_7 rfl ?_
  refine K_S1 (pc := 8) (k' := (2, 12)) mok_X9_requireCustomer lk_X9_79 rfl (aok0 rfl) dX9_begin_8 (C_custX hy) rfl (fun v1 Y1 q1 => ?_) (fun E1 Y1 q1 => ?_)
  · exact q1.elim
  · (obtain ⟨rfl, rfl⟩ := q1; exact GX_out rfl ⟨by decide, by decide⟩ ⟨0, rfl, hcd, hq⟩)
theorem K_beginZ {Γ : GTy} {Z : HS} {n : Nat} {P : HS → FT → Prop} {F A : FT} {g : GN} (h : CI n Z F g A) {t a : Nat} {y2 z : Int32} (ht : t < 4) (ha : a < 8) (hy : ¬ (nI 0 ≤ y2 ∧ y2 ≤ nI 7)) {F' : FT} {b : Int32} (hcd : F' 25 0 = nI 1) (hq : Nx P Z Z F') : Tt Γ M_X9_begin [.ref 800000, .int (nI t), .int (nI a), .int y2, .int z] Z (QVo P Z F' b) (QXo P Z F' [xIO, xIA, xIS]) := by
  refine Tt_of' rfl rfl rfl ?_
  show G Γ M_X9_begin (rm M_X9_begin) (Vt Γ M_X9_begin (QVo P Z F' b) (QXo P Z F' [xIO, xIA, xIS])) (0, 0) 0 [some (.ref 800000), some (.int (nI t)), some (.int (nI a)), some (.int y2), some (.int z), none, none] [] Z
  have h0 := h
  obtain ⟨hH, ⟨hPI, hPG, hZo⟩, ⟨hZh, hZd, hZw⟩, ⟨hZt, hZc, hZf⟩, ⟨hZr, hZs, hZl⟩, hZfr, hZbd⟩ := h0
  refine G_aload_n (pc := 0) dX9_begin_0 rfl ?_
  refine G_iload_n (pc := 1) dX9_begin_1 rfl ?_
  refine K_Vn1r (pc := 2) (k' := (1, 6)) mok_X9_tableAt lk_X9_75 (sh_k hH) rfl rfl rfl (aok0 rfl) dX9_begin_2 (C_tableAtN hH ht) rfl ?_
  refine G_astore (pc := 5) dX9_begin_5 (by decide) ?_
  refine G_iload_n (pc := 7) dX9_begin_7 rfl ?_
  refine K_Sn1v (pc := 8) (k' := (2, 12)) mok_X9_requireCustomer lk_X9_79 rfl (aok0 rfl) dX9_begin_8 (C_custN ha) rfl ?_
  refine G_iload_n (pc := 11) dX9_begin_11 rfl ?_
  refine K_S1 (pc := 12) (k' := (3, 18)) mok_X9_requireCustomer lk_X9_79 rfl (aok0 rfl) dX9_begin_12 (C_custX hy) rfl (fun v1 Y1 q1 => ?_) (fun E1 Y1 q1 => ?_)
  · exact q1.elim
  · (obtain ⟨rfl, rfl⟩ := q1; exact GX_out rfl ⟨by decide, by decide⟩ ⟨0, rfl, hcd, hq⟩)
theorem K_beginU {Γ : GTy} {Z : HS} {n : Nat} {P : HS → FT → Prop} {F A : FT} {g : GN} (h : CI n Z F g A) {t a c : Nat} {z : Int32} (ht : t < 4) (ha : a < 8) (hc : c < 8) (hab : a = c) {F' : FT} {b : Int32} (hcd : F' 25 0 = nI 2) (hq : Nx P Z Z F') : Tt Γ M_X9_begin [.ref 800000, .int (nI t), .int (nI a), .int (nI c), .int z] Z (QVo P Z F' b) (QXo P Z F' [xIO, xIA, xIS]) := by
  refine Tt_of' rfl rfl rfl ?_
  show G Γ M_X9_begin (rm M_X9_begin) (Vt Γ M_X9_begin (QVo P Z F' b) (QXo P Z F' [xIO, xIA, xIS])) (0, 0) 0 [some (.ref 800000), some (.int (nI t)), some (.int (nI a)), some (.int (nI c)), some (.int z), none, none] [] Z
  have h0 := h
  obtain ⟨hH, ⟨hPI, hPG, hZo⟩, ⟨hZh, hZd, hZw⟩, ⟨hZt, hZc, hZf⟩, ⟨hZr, hZs, hZl⟩, hZfr, hZbd⟩ := h0
  refine G_aload_n (pc := 0) dX9_begin_0 rfl ?_
  refine G_iload_n (pc := 1) dX9_begin_1 rfl ?_
  refine K_Vn1r (pc := 2) (k' := (1, 6)) mok_X9_tableAt lk_X9_75 (sh_k hH) rfl rfl rfl (aok0 rfl) dX9_begin_2 (C_tableAtN hH ht) rfl ?_
  refine G_astore (pc := 5) dX9_begin_5 (by decide) ?_
  refine G_iload_n (pc := 7) dX9_begin_7 rfl ?_
  refine K_Sn1v (pc := 8) (k' := (2, 12)) mok_X9_requireCustomer lk_X9_79 rfl (aok0 rfl) dX9_begin_8 (C_custN ha) rfl ?_
  refine G_iload_n (pc := 11) dX9_begin_11 rfl ?_
  refine K_Sn1v (pc := 12) (k' := (3, 18)) mok_X9_requireCustomer lk_X9_79 rfl (aok0 rfl) dX9_begin_12 (C_custN hc) rfl ?_
  refine G_iload_n (pc := 15) dX9_begin_15 rfl ?_
  refine G_iload_n (pc := 16) dX9_begin_16 rfl ?_
  refine G_icmp_neN (pc := 17) (tgt := 30) (by omega) (by omega) dX9_begin_17 (by decide) (fun c17 => ?_) (fun c17 => ?_)
  · exact absurd hab c17
  · skip
    refine G_throw (pc := 20)  tw_X9_142 rfl dX9_begin_20 dX9_begin_23 dX9_begin_24 dX9_begin_26 dX9_begin_29 ⟨by decide, Nat.le_of_ble_eq_true rfl, by decide, by decide⟩ ⟨by decide, by decide⟩ ?_
    exact ⟨1, rfl, hcd, hq⟩
theorem K_beginV {Γ : GTy} {Z : HS} {n : Nat} {P : HS → FT → Prop} {F A : FT} {g : GN} (h : CI n Z F g A) {t a c : Nat} {z : Int32} (ht : t < 4) (ha : a < 8) (hc : c < 8) (hab : a ≠ c) (h20 : ¬ g 16 0 < 20) {F' : FT} {b : Int32} (hcd : F' 25 0 = nI 3) (hq : Nx P Z Z F') : Tt Γ M_X9_begin [.ref 800000, .int (nI t), .int (nI a), .int (nI c), .int z] Z (QVo P Z F' b) (QXo P Z F' [xIO, xIA, xIS]) := by
  refine Tt_of' rfl rfl rfl ?_
  show G Γ M_X9_begin (rm M_X9_begin) (Vt Γ M_X9_begin (QVo P Z F' b) (QXo P Z F' [xIO, xIA, xIS])) (0, 0) 0 [some (.ref 800000), some (.int (nI t)), some (.int (nI a)), some (.int (nI c)), some (.int z), none, none] [] Z
  have h0 := h
  obtain ⟨hH, ⟨hPI, hPG, hZo⟩, ⟨hZh, hZd, hZw⟩, ⟨hZt, hZc, hZf⟩, ⟨hZr, hZs, hZl⟩, hZfr, hZbd⟩ := h0
  refine G_aload_n (pc := 0) dX9_begin_0 rfl ?_
  refine G_iload_n (pc := 1) dX9_begin_1 rfl ?_
  refine K_Vn1r (pc := 2) (k' := (1, 6)) mok_X9_tableAt lk_X9_75 (sh_k hH) rfl rfl rfl (aok0 rfl) dX9_begin_2 (C_tableAtN hH ht) rfl ?_
  refine G_astore (pc := 5) dX9_begin_5 (by decide) ?_
  refine G_iload_n (pc := 7) dX9_begin_7 rfl ?_
  refine K_Sn1v (pc := 8) (k' := (2, 12)) mok_X9_requireCustomer lk_X9_79 rfl (aok0 rfl) dX9_begin_8 (C_custN ha) rfl ?_
  refine G_iload_n (pc := 11) dX9_begin_11 rfl ?_
  refine K_Sn1v (pc := 12) (k' := (3, 18)) mok_X9_requireCustomer lk_X9_79 rfl (aok0 rfl) dX9_begin_12 (C_custN hc) rfl ?_
  refine G_iload_n (pc := 15) dX9_begin_15 rfl ?_
  refine G_iload_n (pc := 16) dX9_begin_16 rfl ?_
  refine G_icmp_neN (pc := 17) (tgt := 30) (by omega) (by omega) dX9_begin_17 (by decide) (fun c17 => ?_) (fun c17 => ?_)
  · skip
    refine G_aload_n (pc := 30) dX9_begin_30 rfl ?_
    refine G_getIv (pc := 31) (c := 8) (i := 10) (v := nI (g 16 0)) hZh.1.1 fl_X9_145 (sh_k hH) rfl dX9_begin_31 ?_
    have b20 := hPI.1.2.2
    refine G_aload_n (pc := 34) dX9_begin_34 rfl ?_
    refine G_getS (pc := 35) fl_X9_23 (sh_k hH) rfl (sh_r2 hH) dX9_begin_35 ?_
    refine G_alen (pc := 38) (v := nI 20) (sh_c2 hH) (by decide) (congrArg nI (sh_n2 hH)) dX9_begin_38 ?_
    refine G_icmp_ltN (pc := 39) (tgt := 52) (by omega) (by omega) dX9_begin_39 (by decide) (fun c39 => ?_) (fun c39 => ?_)
    · exact absurd c39 h20
    · skip
      refine G_throw (pc := 42)  tw_X9_148 rfl dX9_begin_42 dX9_begin_45 dX9_begin_46 dX9_begin_48 dX9_begin_51 ⟨by decide, Nat.le_of_ble_eq_true rfl, by decide, by decide⟩ ⟨by decide, by decide⟩ ?_
      exact ⟨2, rfl, hcd, hq⟩
  · exact absurd c17 hab
theorem K_beginW {Γ : GTy} {Z : HS} {n : Nat} {P : HS → FT → Prop} {F A : FT} {g : GN} (h : CI n Z F g A) {t a c : Nat} {z : Int32} (ht : t < 4) (ha : a < 8) (hc : c < 8) (hab : a ≠ c) (h20 : g 16 0 < 20) (hx : ¬ (F 102 t = 0 ∧ g 1 t = 0 ∧ (¬ z = 0 ∨ (F 103 t = nI (a + 1) ∨ F 103 t = nI (c + 1))))) {F' : FT} {b : Int32} (hcd : F' 25 0 = nI 3) (hq : Nx P Z Z F') : Tt Γ M_X9_begin [.ref 800000, .int (nI t), .int (nI a), .int (nI c), .int z] Z (QVo P Z F' b) (QXo P Z F' [xIO, xIA, xIS]) := by
  refine Tt_of' rfl rfl rfl ?_
  show G Γ M_X9_begin (rm M_X9_begin) (Vt Γ M_X9_begin (QVo P Z F' b) (QXo P Z F' [xIO, xIA, xIS])) (0, 0) 0 [some (.ref 800000), some (.int (nI t)), some (.int (nI a)), some (.int (nI c)), some (.int z), none, none] [] Z
  have h0 := h
  obtain ⟨hH, ⟨hPI, hPG, hZo⟩, ⟨hZh, hZd, hZw⟩, ⟨hZt, hZc, hZf⟩, ⟨hZr, hZs, hZl⟩, hZfr, hZbd⟩ := h0
  refine G_aload_n (pc := 0) dX9_begin_0 rfl ?_
  refine G_iload_n (pc := 1) dX9_begin_1 rfl ?_
  refine K_Vn1r (pc := 2) (k' := (1, 6)) mok_X9_tableAt lk_X9_75 (sh_k hH) rfl rfl rfl (aok0 rfl) dX9_begin_2 (C_tableAtN hH ht) rfl ?_
  refine G_astore (pc := 5) dX9_begin_5 (by decide) ?_
  refine G_iload_n (pc := 7) dX9_begin_7 rfl ?_
  refine K_Sn1v (pc := 8) (k' := (2, 12)) mok_X9_requireCustomer lk_X9_79 rfl (aok0 rfl) dX9_begin_8 (C_custN ha) rfl ?_
  refine G_iload_n (pc := 11) dX9_begin_11 rfl ?_
  refine K_Sn1v (pc := 12) (k' := (3, 18)) mok_X9_requireCustomer lk_X9_79 rfl (aok0 rfl) dX9_begin_12 (C_custN hc) rfl ?_
  refine G_iload_n (pc := 15) dX9_begin_15 rfl ?_
  refine G_iload_n (pc := 16) dX9_begin_16 rfl ?_
  refine G_icmp_neN (pc := 17) (tgt := 30) (by omega) (by omega) dX9_begin_17 (by decide) (fun c17 => ?_) (fun c17 => ?_)
  · skip
    refine G_aload_n (pc := 30) dX9_begin_30 rfl ?_
    refine G_getIv (pc := 31) (c := 8) (i := 10) (v := nI (g 16 0)) hZh.1.1 fl_X9_145 (sh_k hH) rfl dX9_begin_31 ?_
    refine G_aload_n (pc := 34) dX9_begin_34 rfl ?_
    refine G_getS (pc := 35) fl_X9_23 (sh_k hH) rfl (sh_r2 hH) dX9_begin_35 ?_
    refine G_alen (pc := 38) (v := nI 20) (sh_c2 hH) (by decide) (congrArg nI (sh_n2 hH)) dX9_begin_38 ?_
    refine G_icmp_ltN (pc := 39) (tgt := 52) (by omega) (by omega) dX9_begin_39 (by decide) (fun c39 => ?_) (fun c39 => ?_)
    · skip
      refine G_aload (pc := 52) dX9_begin_52 rfl ?_
      refine G_iload (pc := 54) dX9_begin_54 rfl ?_
      refine G_iload_n (pc := 56) dX9_begin_56 rfl ?_
      refine G_iload_n (pc := 57) dX9_begin_57 rfl ?_
      refine K_S4 (pc := 58) (k' := (5, 30)) mok_X9_requirePlace lk_X9_150 rfl (aok0 rfl) dX9_begin_58 (C_placeX h ht ha hc hx) rfl (fun v1 Y1 q1 => ?_) (fun E1 Y1 q1 => ?_)
      · exact q1.elim
      · (obtain ⟨rfl, rfl⟩ := q1; exact GX_out rfl ⟨by decide, by decide⟩ ⟨2, rfl, hcd, hq⟩)
    · omega
  · exact absurd c17 hab
theorem u2_over {F : FT} {s j : Nat} {v w : Int32} : u2 (u2 F s j v) s j w = u2 F s j w := by
  funext s' j'
  unfold u2
  split <;> rfl
theorem beg_F {F : FT} {a c n t : Nat} {z : Int32} (h : F 113 n = nI 0) : onF (newF F a c n z) t n = u2 (bF (mB0 F a c n z) n 8) 104 t (nI (n + 1)) := by
  unfold onF newF
  rw [u2_over, u2_id (F := bF (mB0 F a c n z) n 8) (s := 113) (j := n) (v := nI 0)]
  rw [bF_o (Or.inl (by decide))]
  unfold mB0 thr
  rw [u2_s (by decide), u2_s (by decide), u2_s (by decide), u2_s (by decide), u2_s (by decide), u2_s (by decide), u2_s (by decide)]
  exact h
