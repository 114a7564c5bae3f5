-- ===== rent: the calls =====
theorem rdy {N : HS} (h : SH N) {a m : Nat} {w1 w2 : Option Nat} {v v2 : Int32} : SH (sI (sP (sI (sR N 7 1 a w1) 7 2 a v2) 1800003 m w2) 8 11 800000 v) :=
  SH_t h (by rw [xK_sI', xK_sP', xK_sI', xK_sR']) (by rw [xn_sI', xn_sP', xn_sI', xn_sR']) (fun c k a hc => by rw [xR_sI', xR_sP', xR_sI', xR_sR (by omega)]) (fun a i ha => by rw [xP_sI', xP_sP (by omega), xP_sI', xP_sR'])
theorem anyB_n {p : Nat → Prop} [DecidablePred p] {n : Nat} (hn : n < 100) : (anyB p n = true) ↔ ¬ lastW p n < 0 := by
  rw [anyB_iff]
  rcases lastW_spec p n with ⟨h1, h2⟩ | ⟨j, h1, h2, h3, -⟩
  · rw [h1]
    exact ⟨fun ⟨i, hi, q⟩ => absurd q (h2 i hi), fun q => absurd (by decide) q⟩
  · rw [h3]
    exact ⟨fun _ => nI_pos (by omega), fun _ => ⟨j, h1, h2⟩⟩
theorem C_rentInit {Γ : GTy} {Z : HS} {q : Nat} (hk : xK Z q = 5) (t c m : Int32) : Tn Γ M_X5_init [.ref q, .int t, .int c, .int m] Z (rt none (sI (sI (sI (sI Z 5 3 q (-1)) 5 0 q t) 5 1 q c) 5 2 q m)) := by
  refine Tn_of' rfl rfl rfl ?_
  show G Γ M_X5_init (rm M_X5_init) (Vn Γ M_X5_init (rt none (sI (sI (sI (sI Z 5 3 q (-1)) 5 0 q t) 5 1 q c) 5 2 q m))) (0, 0) 0 [some (.ref q), some (.int t), some (.int c), some (.int m)] [] Z
  refine G_aload_n (pc := 0) dX5_init_0 rfl ?_
  refine G_objInit (pc := 1) lo_X5_3 wIO ⟨by decide, Nat.le_of_ble_eq_true rfl⟩ dX5_init_1 ?_
  refine G_aload_n (pc := 4) dX5_init_4 rfl ?_
  refine G_iconst (pc := 5) (v := -1) dX5_init_5 (by first | rfl | decide) ?_
  refine G_putI (pc := 6) fl_X5_9 fw_5_3 hk rfl dX5_init_6 ?_
  refine G_aload_n (pc := 9) dX5_init_9 rfl ?_
  refine G_iload_n (pc := 10) dX5_init_10 rfl ?_
  refine G_putIF (pc := 11) fl_X5_15 ff_X5_5_0 rfl hk rfl dX5_init_11 ?_
  refine G_aload_n (pc := 14) dX5_init_14 rfl ?_
  refine G_iload_n (pc := 15) dX5_init_15 rfl ?_
  refine G_putIF (pc := 16) fl_X5_18 ff_X5_5_1 rfl hk rfl dX5_init_16 ?_
  refine G_aload_n (pc := 19) dX5_init_19 rfl ?_
  refine G_iload_n (pc := 20) dX5_init_20 rfl ?_
  refine G_putIF (pc := 21) fl_X5_21 ff_X5_5_2 rfl hk rfl dX5_init_21 ?_
  refine G_vret (pc := 24) VZ.n dX5_init_24 rfl ⟨by decide, by decide⟩ ?_
  exact ⟨rfl, rfl⟩
theorem K_rentN {Γ : GTy} {Z : HS} {n : Nat} {P : HS → FT → Prop} {F A : FT} {g : GN} (h : CI n Z F g A) {t c : Nat} (ht : t < 4) (hc : c < 8) (hn : n < 512) (ho : F 102 t = 0) (hl : g 0 t = 0) (he : ¬ anyB (fun k => F 103 k = nI (c + 1)) 4 = true) {F9 A9 : FT} {g9 : GN} (hO : CI (n + 1) (rentZ Z (g 17 0) t c (g 15 0)) F9 g9 A9) {F' : FT} {b : Int32} (hb : nI (cnt (fun k => ¬ F9 103 k ≤ 0) 4) = b) (hcd : F' 25 0 = nI 0) (hq : Nx P Z (rentZ Z (g 17 0) t c (g 15 0)) F') : Tt Γ M_X9_rent [.ref 800000, .int (nI t), .int (nI c)] Z (QVo P Z F' b) (QXo P Z F' [xIO, xIS]) := by
  refine Tt_of' rfl rfl rfl ?_
  show G Γ M_X9_rent (rm M_X9_rent) (Vt Γ M_X9_rent (QVo P Z F' b) (QXo P Z F' [xIO, xIS])) (0, 0) 0 [some (.ref 800000), some (.int (nI t)), some (.int (nI c)), none, none] [] Z
  have h0 := h
  obtain ⟨hH, ⟨hPI, hPG, hZo⟩, ⟨hZh, hZd, hZw⟩, ⟨hZt, hZc, hZf⟩, ⟨hZr, hZs, hZl⟩, hZfr, hZbd⟩ := h0
  have hb9 := hZbd
  unfold Zbd at hb9
  have q99 := hZfr.2.1 (g 17 0) (Nat.le_refl _) (by omega)
  have agn : AG Z (nO Z (500000 + g 17 0) 5) := (AG.refl Z).nX q99
  obtain ⟨jH, ⟨jh, -, -⟩, -⟩ := agCJ agn h
  have kq : xK (nO Z (500000 + g 17 0) 5) (500000 + g 17 0) = 5 := va_up_self _ _ _
  have kt := (jH.2.2.1 t ht).1
  refine G_aload_n (pc := 0) dX9_rent_0 rfl ?_
  refine G_iload_n (pc := 1) dX9_rent_1 rfl ?_
  refine K_Vn1r (pc := 2) (k' := (1, 6)) mok_X9_tableAt lk_X9_75 (sh_k hH) rfl rfl rfl (aok0 rfl) dX9_rent_2 (C_tableAtN hH ht) rfl ?_
  refine G_astore_n (pc := 5) dX9_rent_5 (by decide) ?_
  refine G_iload_n (pc := 6) dX9_rent_6 rfl ?_
  refine K_Sn1v (pc := 7) (k' := (2, 12)) mok_X9_requireCustomer lk_X9_79 rfl (aok0 rfl) dX9_rent_7 (C_custN hc) rfl ?_
  refine G_aload_n (pc := 10) dX9_rent_10 rfl ?_
  refine G_getIv (pc := 11) (c := 7) (i := 0) (v := b2 (F 102 t = 0)) (hZt t ht).1 fl_X9_83 (hH.2.2.1 t ht).1 rfl dX9_rent_11 ?_
  refine G_if_eqB (pc := 14) (tgt := 32) dX9_rent_14 (by decide) (fun c14 => ?_) (fun c14 => ?_)
  · exact absurd ho c14
  · skip
    refine G_aload_n (pc := 17) dX9_rent_17 rfl ?_
    refine G_getN (pc := 18) fl_X9_87 (hH.2.2.1 t ht).1 rfl ((hZt t ht).2.1 hl) dX9_rent_18 ?_
    refine G_ifnonnull_n (pc := 21) dX9_rent_21 ?_
    refine G_aload_n (pc := 24) dX9_rent_24 rfl ?_
    refine G_iload_n (pc := 25) dX9_rent_25 rfl ?_
    refine K_Vn1r (pc := 26) (k' := (2, 12)) mok_X9_rentsAny lk_X9_91 (sh_k hH) rfl rfl rfl (aok0 rfl) dX9_rent_26 (C_rentsAny h hc) rfl ?_
    refine G_if_eqB (pc := 29) (tgt := 42) dX9_rent_29 (by decide) (fun c29 => ?_) (fun c29 => ?_)
    · skip
      refine G_new (pc := 42) (c := 5) (500000 + g 17 0) rfl q99 (by first | decide | omega) ⟨fr1 (by omega) (fr1 (by omega) (show _ ∉ ([] : List Nat) from List.not_mem_nil)), (show _ ∉ ([] : List Nat) from List.not_mem_nil)⟩ (by decide) cl_X9_27 wN_5.1 wN_5.2 ⟨by decide, by decide⟩ dX9_rent_42 ?_
      refine G_dup (pc := 45) dX9_rent_45 rfl ?_
      refine G_iload_n (pc := 46) dX9_rent_46 rfl ?_
      refine G_iload_n (pc := 47) dX9_rent_47 rfl ?_
      refine G_aload_n (pc := 48) dX9_rent_48 rfl ?_
      refine G_getIv (pc := 49) (c := 8) (i := 15) (v := nI (g 15 0)) jh.2.2.2 fl_X9_102 (sh_k jH) rfl dX9_rent_49 ?_
      refine K_I3v (pc := 52) (k' := (3, 17)) mok_X5_init lk_X9_105 rfl (aok0 rfl) dX9_rent_52 (C_rentInit kq (nI t) (nI c) (nI (g 15 0))) rfl ?_
      refine G_astore (pc := 55) dX9_rent_55 (by decide) ?_
      refine G_aload_n (pc := 57) dX9_rent_57 rfl ?_
      refine G_aload (pc := 58) dX9_rent_58 rfl ?_
      refine G_putR (pc := 60) (o := some _) rfl (fun _ h => by cases h; exact (show xK (nO Z (500000 + g 17 0) 5) (500000 + g 17 0) ≠ 99 by rw [kq]; decide)) fl_X9_87 fw_7_1 kt rfl dX9_rent_60 ?_
      refine G_aload_n (pc := 63) dX9_rent_63 rfl ?_
      refine G_iconst (pc := 64) (v := nI 0) dX9_rent_64 (by first | rfl | decide) ?_
      refine G_putI (pc := 65) fl_X9_107 fw_7_2 kt rfl dX9_rent_65 ?_
      refine G_aload_n (pc := 68) dX9_rent_68 rfl ?_
      refine G_getIv (pc := 69) (c := 8) (i := 11) (v := nI (g 17 0)) jh.1.2 fl_X9_110 (sh_k jH) rfl dX9_rent_69 ?_
      refine G_aload_n (pc := 72) dX9_rent_72 rfl ?_
      refine G_getS (pc := 73) fl_X9_29 (sh_k jH) rfl (sh_r3 jH) dX9_rent_73 ?_
      refine G_alen (pc := 76) (v := nI 512) (sh_c3 jH) (by decide) (congrArg nI (sh_n3 jH)) dX9_rent_76 ?_
      refine G_icmp_geN (pc := 77) (tgt := 101) (by omega) (by omega) dX9_rent_77 (by decide) (fun c77 => ?_) (fun c77 => ?_)
      · omega
      · skip
        refine G_aload_n (pc := 80) dX9_rent_80 rfl ?_
        refine G_getS (pc := 81) fl_X9_29 (sh_k jH) rfl (sh_r3 jH) dX9_rent_81 ?_
        refine G_aload_n (pc := 84) dX9_rent_84 rfl ?_
        refine G_getIv (pc := 85) (c := 8) (i := 11) (v := nI (g 17 0)) jh.1.2 fl_X9_110 (sh_k jH) rfl dX9_rent_85 ?_
        refine G_aload (pc := 88) dX9_rent_88 rfl ?_
        refine G_aast (pc := 90) (j := (g 17 0)) (sh_c3 jH) (by decide) rfl (Nat.lt_of_lt_of_eq (show g 17 0 < 512 by omega) (sh_n3 jH).symm) (by omega) kq (by decide) rfl dX9_rent_90 ?_
        refine G_aload_n (pc := 91) dX9_rent_91 rfl ?_
        refine G_dup (pc := 92) dX9_rent_92 rfl ?_
        refine G_getIv (pc := 93) (c := 8) (i := 11) (v := nI (g 17 0)) jh.1.2 fl_X9_110 (sh_k jH) rfl dX9_rent_93 ?_
        refine G_iconst (pc := 96) (v := nI 1) dX9_rent_96 (by first | rfl | decide) ?_
        refine G_iaddN (pc := 97) dX9_rent_97 ?_
        refine G_putI (pc := 98) fl_X9_110 fw_8_11 (sh_k jH) rfl dX9_rent_98 ?_
        refine G_aload_n (pc := 101) dX9_rent_101 rfl ?_
        refine K_Vn0r (pc := 102) (k' := (3, 17)) mok_X9_rentedTables lk_X9_113 (sh_k hO.1) rfl rfl rfl (aok0 rfl) dX9_rent_102 (C_rentedTables hO) rfl ?_
        refine G_iret (pc := 105) VZ.x dX9_rent_105 rfl ⟨by decide, by decide⟩ ?_
        exact ⟨congrArg (fun z => some (Value.int z)) hb, hcd, hq⟩
    · exact absurd c29 he
theorem K_rentX {Γ : GTy} {Z : HS} {n : Nat} {P : HS → FT → Prop} {F A : FT} {g : GN} (h : CI n Z F g A) {x y : Int32} (hx : ¬ (nI 0 ≤ x ∧ x ≤ nI 3)) {F' : FT} {b : Int32} (hcd : F' 25 0 = nI 1) (hq : Nx P Z Z F') : Tt Γ M_X9_rent [.ref 800000, .int x, .int y] Z (QVo P Z F' b) (QXo P Z F' [xIO, xIS]) := by
  refine Tt_of' rfl rfl rfl ?_
  show G Γ M_X9_rent (rm M_X9_rent) (Vt Γ M_X9_rent (QVo P Z F' b) (QXo P Z F' [xIO, xIS])) (0, 0) 0 [some (.ref 800000), some (.int x), some (.int y), none, none] [] Z
  have h0 := h
  obtain ⟨hH, ⟨hPI, hPG, hZo⟩, ⟨hZh, hZd, hZw⟩, ⟨hZt, hZc, hZf⟩, ⟨hZr, hZs, hZl⟩, hZfr, hZbd⟩ := h0
  refine G_aload_n (pc := 0) dX9_rent_0 rfl ?_
  refine G_iload_n (pc := 1) dX9_rent_1 rfl ?_
  refine K_V1 (pc := 2) (k' := (1, 6)) mok_X9_tableAt lk_X9_75 (sh_k hH) rfl rfl rfl (aok0 rfl) dX9_rent_2 (C_tableAtX hH hx) rfl (fun v1 Y1 q1 => ?_) (fun E1 Y1 q1 => ?_)
  · exact q1.elim
  · (obtain ⟨rfl, rfl⟩ := q1; exact GX_out rfl ⟨by decide, by decide⟩ ⟨0, rfl, hcd, hq⟩)
theorem K_rentY {Γ : GTy} {Z : HS} {n : Nat} {P : HS → FT → Prop} {F A : FT} {g : GN} (h : CI n Z F g A) {t : Nat} {y : Int32} (ht : t < 4) (hy : ¬ (nI 0 ≤ y ∧ y ≤ nI 7)) {F' : FT} {b : Int32} (hcd : F' 25 0 = nI 1) (hq : Nx P Z Z F') : Tt Γ M_X9_rent [.ref 800000, .int (nI t), .int y] Z (QVo P Z F' b) (QXo P Z F' [xIO, xIS]) := by
  refine Tt_of' rfl rfl rfl ?_
  show G Γ M_X9_rent (rm M_X9_rent) (Vt Γ M_X9_rent (QVo P Z F' b) (QXo P Z F' [xIO, xIS])) (0, 0) 0 [some (.ref 800000), some (.int (nI t)), some (.int y), none, none] [] Z
  have h0 := h
  obtain ⟨hH, ⟨hPI, hPG, hZo⟩, ⟨hZh, hZd, hZw⟩, ⟨hZt, hZc, hZf⟩, ⟨hZr, hZs, hZl⟩, hZfr, hZbd⟩ := h0
  refine G_aload_n (pc := 0) dX9_rent_0 rfl ?_
  refine G_iload_n (pc := 1) dX9_rent_1 rfl ?_
  refine K_Vn1r (pc := 2) (k' := (1, 6)) mok_X9_tableAt lk_X9_75 (sh_k hH) rfl rfl rfl (aok0 rfl) dX9_rent_2 (C_tableAtN hH ht) rfl ?_
  refine G_astore_n (pc := 5) dX9_rent_5 (by decide) ?_
  refine G_iload_n (pc := 6) dX9_rent_6 rfl ?_
  refine K_S1 (pc := 7) (k' := (2, 12)) mok_X9_requireCustomer lk_X9_79 rfl (aok0 rfl) dX9_rent_7 (C_custX hy) rfl (fun v1 Y1 q1 => ?_) (fun E1 Y1 q1 => ?_)
  · exact q1.elim
  · (obtain ⟨rfl, rfl⟩ := q1; exact GX_out rfl ⟨by decide, by decide⟩ ⟨0, rfl, hcd, hq⟩)
theorem K_rentU {Γ : GTy} {Z : HS} {n : Nat} {P : HS → FT → Prop} {F A : FT} {g : GN} (h : CI n Z F g A) {t c : Nat} (ht : t < 4) (hc : c < 8) (ho : ¬ F 102 t = 0) {F' : FT} {b : Int32} (hcd : F' 25 0 = nI 2) (hq : Nx P Z Z F') : Tt Γ M_X9_rent [.ref 800000, .int (nI t), .int (nI c)] Z (QVo P Z F' b) (QXo P Z F' [xIO, xIS]) := by
  refine Tt_of' rfl rfl rfl ?_
  show G Γ M_X9_rent (rm M_X9_rent) (Vt Γ M_X9_rent (QVo P Z F' b) (QXo P Z F' [xIO, xIS])) (0, 0) 0 [some (.ref 800000), some (.int (nI t)), some (.int (nI c)), none, none] [] Z
  have h0 := h
  obtain ⟨hH, ⟨hPI, hPG, hZo⟩, ⟨hZh, hZd, hZw⟩, ⟨hZt, hZc, hZf⟩, ⟨hZr, hZs, hZl⟩, hZfr, hZbd⟩ := h0
  refine G_aload_n (pc := 0) dX9_rent_0 rfl ?_
  refine G_iload_n (pc := 1) dX9_rent_1 rfl ?_
  refine K_Vn1r (pc := 2) (k' := (1, 6)) mok_X9_tableAt lk_X9_75 (sh_k hH) rfl rfl rfl (aok0 rfl) dX9_rent_2 (C_tableAtN hH ht) rfl ?_
  refine G_astore_n (pc := 5) dX9_rent_5 (by decide) ?_
  refine G_iload_n (pc := 6) dX9_rent_6 rfl ?_
  refine K_Sn1v (pc := 7) (k' := (2, 12)) mok_X9_requireCustomer lk_X9_79 rfl (aok0 rfl) dX9_rent_7 (C_custN hc) rfl ?_
  refine G_aload_n (pc := 10) dX9_rent_10 rfl ?_
  refine G_getIv (pc := 11) (c := 7) (i := 0) (v := b2 (F 102 t = 0)) (hZt t ht).1 fl_X9_83 (hH.2.2.1 t ht).1 rfl dX9_rent_11 ?_
  refine G_if_eqB (pc := 14) (tgt := 32) dX9_rent_14 (by decide) (fun c14 => ?_) (fun c14 => ?_)
  · skip
    refine G_throw (pc := 32)  tw_X9_97 rfl dX9_rent_32 dX9_rent_35 dX9_rent_36 dX9_rent_38 dX9_rent_41 ⟨by decide, Nat.le_of_ble_eq_true rfl, by decide, by decide⟩ ⟨by decide, by decide⟩ ?_
    exact ⟨1, rfl, hcd, hq⟩
  · exact absurd c14 ho
theorem K_rentV {Γ : GTy} {Z : HS} {n : Nat} {P : HS → FT → Prop} {F A : FT} {g : GN} (h : CI n Z F g A) {t c : Nat} (ht : t < 4) (hc : c < 8) (ho : F 102 t = 0) (hl : g 0 t ≠ 0) {F' : FT} {b : Int32} (hcd : F' 25 0 = nI 2) (hq : Nx P Z Z F') : Tt Γ M_X9_rent [.ref 800000, .int (nI t), .int (nI c)] Z (QVo P Z F' b) (QXo P Z F' [xIO, xIS]) := by
  refine Tt_of' rfl rfl rfl ?_
  show G Γ M_X9_rent (rm M_X9_rent) (Vt Γ M_X9_rent (QVo P Z F' b) (QXo P Z F' [xIO, xIS])) (0, 0) 0 [some (.ref 800000), some (.int (nI t)), some (.int (nI c)), none, none] [] Z
  have h0 := h
  obtain ⟨hH, ⟨hPI, hPG, hZo⟩, ⟨hZh, hZd, hZw⟩, ⟨hZt, hZc, hZf⟩, ⟨hZr, hZs, hZl⟩, hZfr, hZbd⟩ := h0
  refine G_aload_n (pc := 0) dX9_rent_0 rfl ?_
  refine G_iload_n (pc := 1) dX9_rent_1 rfl ?_
  refine K_Vn1r (pc := 2) (k' := (1, 6)) mok_X9_tableAt lk_X9_75 (sh_k hH) rfl rfl rfl (aok0 rfl) dX9_rent_2 (C_tableAtN hH ht) rfl ?_
  refine G_astore_n (pc := 5) dX9_rent_5 (by decide) ?_
  refine G_iload_n (pc := 6) dX9_rent_6 rfl ?_
  refine K_Sn1v (pc := 7) (k' := (2, 12)) mok_X9_requireCustomer lk_X9_79 rfl (aok0 rfl) dX9_rent_7 (C_custN hc) rfl ?_
  refine G_aload_n (pc := 10) dX9_rent_10 rfl ?_
  refine G_getIv (pc := 11) (c := 7) (i := 0) (v := b2 (F 102 t = 0)) (hZt t ht).1 fl_X9_83 (hH.2.2.1 t ht).1 rfl dX9_rent_11 ?_
  refine G_if_eqB (pc := 14) (tgt := 32) dX9_rent_14 (by decide) (fun c14 => ?_) (fun c14 => ?_)
  · exact absurd ho c14
  · skip
    refine G_aload_n (pc := 17) dX9_rent_17 rfl ?_
    refine G_getS (pc := 18) fl_X9_87 (hH.2.2.1 t ht).1 rfl ((hZt t ht).2.2.1 hl).1 dX9_rent_18 ?_
    refine G_ifnonnull_r (pc := 21) (tgt := 32) dX9_rent_21 (by decide) ?_
    refine G_throw (pc := 32)  tw_X9_97 rfl dX9_rent_32 dX9_rent_35 dX9_rent_36 dX9_rent_38 dX9_rent_41 ⟨by decide, Nat.le_of_ble_eq_true rfl, by decide, by decide⟩ ⟨by decide, by decide⟩ ?_
    exact ⟨1, rfl, hcd, hq⟩
theorem K_rentW {Γ : GTy} {Z : HS} {n : Nat} {P : HS → FT → Prop} {F A : FT} {g : GN} (h : CI n Z F g A) {t c : Nat} (ht : t < 4) (hc : c < 8) (ho : F 102 t = 0) (hl : g 0 t = 0) (he : anyB (fun k => F 103 k = nI (c + 1)) 4 = true) {F' : FT} {b : Int32} (hcd : F' 25 0 = nI 2) (hq : Nx P Z Z F') : Tt Γ M_X9_rent [.ref 800000, .int (nI t), .int (nI c)] Z (QVo P Z F' b) (QXo P Z F' [xIO, xIS]) := by
  refine Tt_of' rfl rfl rfl ?_
  show G Γ M_X9_rent (rm M_X9_rent) (Vt Γ M_X9_rent (QVo P Z F' b) (QXo P Z F' [xIO, xIS])) (0, 0) 0 [some (.ref 800000), some (.int (nI t)), some (.int (nI c)), none, none] [] Z
  have h0 := h
  obtain ⟨hH, ⟨hPI, hPG, hZo⟩, ⟨hZh, hZd, hZw⟩, ⟨hZt, hZc, hZf⟩, ⟨hZr, hZs, hZl⟩, hZfr, hZbd⟩ := h0
  refine G_aload_n (pc := 0) dX9_rent_0 rfl ?_
  refine G_iload_n (pc := 1) dX9_rent_1 rfl ?_
  refine K_Vn1r (pc := 2) (k' := (1, 6)) mok_X9_tableAt lk_X9_75 (sh_k hH) rfl rfl rfl (aok0 rfl) dX9_rent_2 (C_tableAtN hH ht) rfl ?_
  refine G_astore_n (pc := 5) dX9_rent_5 (by decide) ?_
  refine G_iload_n (pc := 6) dX9_rent_6 rfl ?_
  refine K_Sn1v (pc := 7) (k' := (2, 12)) mok_X9_requireCustomer lk_X9_79 rfl (aok0 rfl) dX9_rent_7 (C_custN hc) rfl ?_
  refine G_aload_n (pc := 10) dX9_rent_10 rfl ?_
  refine G_getIv (pc := 11) (c := 7) (i := 0) (v := b2 (F 102 t = 0)) (hZt t ht).1 fl_X9_83 (hH.2.2.1 t ht).1 rfl dX9_rent_11 ?_
  refine G_if_eqB (pc := 14) (tgt := 32) dX9_rent_14 (by decide) (fun c14 => ?_) (fun c14 => ?_)
  · exact absurd ho c14
  · skip
    refine G_aload_n (pc := 17) dX9_rent_17 rfl ?_
    refine G_getN (pc := 18) fl_X9_87 (hH.2.2.1 t ht).1 rfl ((hZt t ht).2.1 hl) dX9_rent_18 ?_
    refine G_ifnonnull_n (pc := 21) dX9_rent_21 ?_
    refine G_aload_n (pc := 24) dX9_rent_24 rfl ?_
    refine G_iload_n (pc := 25) dX9_rent_25 rfl ?_
    refine K_Vn1r (pc := 26) (k' := (2, 12)) mok_X9_rentsAny lk_X9_91 (sh_k hH) rfl rfl rfl (aok0 rfl) dX9_rent_26 (C_rentsAny h hc) rfl ?_
    refine G_if_eqB (pc := 29) (tgt := 42) dX9_rent_29 (by decide) (fun c29 => ?_) (fun c29 => ?_)
    · exact absurd he c29
    · skip
      refine G_throw (pc := 32)  tw_X9_97 rfl dX9_rent_32 dX9_rent_35 dX9_rent_36 dX9_rent_38 dX9_rent_41 ⟨by decide, Nat.le_of_ble_eq_true rfl, by decide, by decide⟩ ⟨by decide, by decide⟩ ?_
      exact ⟨1, rfl, hcd, hq⟩
