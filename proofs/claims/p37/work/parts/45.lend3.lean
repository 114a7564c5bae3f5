-- ===== lend: the calls =====
theorem C_loanInit {Γ : GTy} {Z : HS} {q : Nat} (hk : xK Z q = 3) (c w : Int32) : Tn Γ M_X3_init [.ref q, .int c, .int w] Z (rt none (sI (sI (sI Z 3 2 q (-1)) 3 0 q c) 3 1 q w)) := by
  refine Tn_of' rfl rfl rfl ?_
  show G Γ M_X3_init (rm M_X3_init) (Vn Γ M_X3_init (rt none (sI (sI (sI Z 3 2 q (-1)) 3 0 q c) 3 1 q w))) (0, 0) 0 [some (.ref q), some (.int c), some (.int w)] [] Z
  refine G_aload_n (pc := 0) dX3_init_0 rfl ?_
  refine G_objInit (pc := 1) lo_X3_3 wIO ⟨by decide, Nat.le_of_ble_eq_true rfl⟩ dX3_init_1 ?_
  refine G_aload_n (pc := 4) dX3_init_4 rfl ?_
  refine G_iconst (pc := 5) (v := -1) dX3_init_5 (by first | rfl | decide) ?_
  refine G_putI (pc := 6) fl_X3_9 fw_3_2 hk rfl dX3_init_6 ?_
  refine G_aload_n (pc := 9) dX3_init_9 rfl ?_
  refine G_iload_n (pc := 10) dX3_init_10 rfl ?_
  refine G_putIF (pc := 11) fl_X3_15 ff_X3_3_0 rfl hk rfl dX3_init_11 ?_
  refine G_aload_n (pc := 14) dX3_init_14 rfl ?_
  refine G_iload_n (pc := 15) dX3_init_15 rfl ?_
  refine G_putIF (pc := 16) fl_X3_18 ff_X3_3_1 rfl hk rfl dX3_init_16 ?_
  refine G_vret (pc := 19) VZ.n dX3_init_19 rfl ⟨by decide, by decide⟩ ?_
  exact ⟨rfl, rfl⟩
theorem C_addDebt {Γ : GTy} {Z : HS} (hH : SH Z) {c : Nat} (hc : c < 8) {v : Int32} (hv : xA Z 1800006 c = v) (w : Int32) : Tn Γ M_X9_addDebt [.ref 800000, .int (nI c), .int w] Z (rt none (sA Z 1800006 c (v + w))) := by
  refine Tn_of' rfl rfl rfl ?_
  show G Γ M_X9_addDebt (rm M_X9_addDebt) (Vn Γ M_X9_addDebt (rt none (sA Z 1800006 c (v + w)))) (0, 0) 0 [some (.ref 800000), some (.int (nI c)), some (.int w)] [] Z
  refine G_iload_n (pc := 0) dX9_addDebt_0 rfl ?_
  refine G_if_ltN (pc := 1) (tgt := 23) (by omega) dX9_addDebt_1 (by decide) (fun c1 => ?_) (fun c1 => ?_)
  · omega
  · skip
    refine G_iload_n (pc := 4) dX9_addDebt_4 rfl ?_
    refine G_aload_n (pc := 5) dX9_addDebt_5 rfl ?_
    refine G_getS (pc := 6) fl_X9_45 (sh_k hH) rfl (sh_r6 hH) dX9_addDebt_6 ?_
    refine G_alen (pc := 9) (v := nI 8) (sh_c6 hH) (by decide) (congrArg nI (sh_n6 hH)) dX9_addDebt_9 ?_
    refine G_icmp_geN (pc := 10) (tgt := 23) (by omega) (by omega) dX9_addDebt_10 (by decide) (fun c10 => ?_) (fun c10 => ?_)
    · omega
    · skip
      refine G_aload_n (pc := 13) dX9_addDebt_13 rfl ?_
      refine G_getS (pc := 14) fl_X9_45 (sh_k hH) rfl (sh_r6 hH) dX9_addDebt_14 ?_
      refine G_iload_n (pc := 17) dX9_addDebt_17 rfl ?_
      refine G_dup2 (pc := 18) dX9_addDebt_18 rfl rfl ?_
      refine G_ialdv (pc := 19) (j := c) (v := v) hv (sh_c6 hH) rfl (Nat.lt_of_lt_of_eq hc (sh_n6 hH).symm) (by omega) dX9_addDebt_19 ?_
      refine G_iload_n (pc := 20) dX9_addDebt_20 rfl ?_
      refine G_iadd (pc := 21) dX9_addDebt_21 ?_
      refine G_iast (pc := 22) (j := c) (sh_c6 hH) rfl (Nat.lt_of_lt_of_eq hc (sh_n6 hH).symm) (by omega) dX9_addDebt_22 ?_
      refine G_vret (pc := 23) VZ.n dX9_addDebt_23 rfl ⟨by decide, by decide⟩ ?_
      exact ⟨rfl, rfl⟩
theorem ldy {N : HS} (h : SH N) {a m : Nat} {w1 w2 : Option Nat} {v : Int32} : SH (sI (sP (sR N 1 1 a w1) 1800005 m w2) 8 13 800000 v) :=
  SH_t h (by rw [xK_sI', xK_sP', xK_sR']) (by rw [xn_sI', xn_sP', xn_sR']) (fun c k a hc => by rw [xR_sI', xR_sP', xR_sR (by omega)]) (fun a i ha => by rw [xP_sI', xP_sP (by omega), xP_sR'])
theorem ldyA {N : HS} {a m : Nat} {w1 w2 : Option Nat} {v : Int32} {i j : Nat} : xA (sI (sP (sR N 1 1 a w1) 1800005 m w2) 8 13 800000 v) i j = xA N i j := by rw [xA_sI', xA_sP', xA_sR']
theorem fr1 {a z : Nat} (h : z ≠ a) {l : List Nat} (g : z ∉ l) : z ∉ a :: l := fun m => by
  rcases List.mem_cons.mp m with e | e
  · exact h e
  · exact g e
theorem K_lendN {Γ : GTy} {Z : HS} {n : Nat} {P : HS → FT → Prop} {F A : FT} {g : GN} (h : CI n Z F g A) {u c : Nat} (hu : u < 6) (hc : c < 8) (hn : n < 512) (hl : g 4 u = 0) (he : lastW (fun k => F 107 k = nI (c + 1)) 6 = -1) {F' : FT} {b : Int32} (hb : F 108 u = b) (hcd : F' 25 0 = nI 0) (hq : Nx P Z (lendZ Z (g 19 0) u c (F 108 u) (owe F c + nI 20)) F') : Tt Γ M_X9_lend [.ref 800000, .int (nI u), .int (nI c)] Z (QVo P Z F' b) (QXo P Z F' [xIO, xIS]) := by
  refine Tt_of' rfl rfl rfl ?_
  show G Γ M_X9_lend (rm M_X9_lend) (Vt Γ M_X9_lend (QVo P Z F' b) (QXo P Z F' [xIO, xIS])) (0, 0) 0 [some (.ref 800000), some (.int (nI u)), some (.int (nI c)), none, none] [] Z
  have h0 := h
  obtain ⟨hH, ⟨hPI, hPG, hZo⟩, ⟨hZh, hZd, hZw⟩, ⟨hZt, hZc, hZf⟩, ⟨hZr, hZs, hZl⟩, hZfr, hZbd⟩ := h0
  have hb9 := hZbd
  unfold Zbd at hb9
  have q99 := hZfr.2.2.2 (g 19 0) (Nat.le_refl _) (by omega)
  have agn : AG Z (nO Z (300000 + g 19 0) 3) := (AG.refl Z).nX q99
  obtain ⟨jH, ⟨jh, jd, -⟩, ⟨-, jc, -⟩, -⟩ := agCJ agn h
  have kq : xK (nO Z (300000 + g 19 0) 3) (300000 + g 19 0) = 3 := va_up_self _ _ _
  have ku := (jH.2.2.2.1 u hu).1
  obtain ⟨kH, ⟨-, kd, -⟩, -⟩ := agCJ (lnZ_AG (c := c) (w := F 108 u) q99) h
  refine G_aload_n (pc := 0) dX9_lend_0 rfl ?_
  refine G_iload_n (pc := 1) dX9_lend_1 rfl ?_
  refine K_Vn1r (pc := 2) (k' := (1, 6)) mok_X9_cueAt lk_X9_222 (sh_k hH) rfl rfl rfl (aok0 rfl) dX9_lend_2 (C_cueAtN hH hu) rfl ?_
  refine G_astore_n (pc := 5) dX9_lend_5 (by decide) ?_
  refine G_iload_n (pc := 6) dX9_lend_6 rfl ?_
  refine K_Sn1v (pc := 7) (k' := (2, 12)) mok_X9_requireCustomer lk_X9_79 rfl (aok0 rfl) dX9_lend_7 (C_custN hc) rfl ?_
  refine G_aload_n (pc := 10) dX9_lend_10 rfl ?_
  refine G_getN (pc := 11) fl_X9_225 (hH.2.2.2.1 u hu).1 rfl ((hZc u hu).2.1 hl) dX9_lend_11 ?_
  refine G_ifnonnull_n (pc := 14) dX9_lend_14 ?_
  refine G_aload_n (pc := 17) dX9_lend_17 rfl ?_
  refine G_iload_n (pc := 18) dX9_lend_18 rfl ?_
  refine K_Vn1r (pc := 19) (k' := (2, 12)) mok_X9_cueHeldBy lk_X9_191 (sh_k hH) rfl rfl rfl (aok0 rfl) dX9_lend_19 (C_cueHeldN h hc he) rfl ?_
  refine G_ifnull_n (pc := 22) (tgt := 35) dX9_lend_22 (by decide) ?_
  refine G_new (pc := 35) (c := 3) (300000 + g 19 0) rfl q99 (by first | decide | omega) ⟨fr1 (by omega) (fr1 (by omega) (show _ ∉ ([] : List Nat) from List.not_mem_nil)), (show _ ∉ ([] : List Nat) from List.not_mem_nil)⟩ (by decide) cl_X9_39 wN_3.1 wN_3.2 ⟨by decide, by decide⟩ dX9_lend_35 ?_
  refine G_dup (pc := 38) dX9_lend_38 rfl ?_
  refine G_iload_n (pc := 39) dX9_lend_39 rfl ?_
  refine G_aload_n (pc := 40) dX9_lend_40 rfl ?_
  refine G_getIv (pc := 41) (c := 1) (i := 0) (v := F 108 u) (jc u hu).1 fl_X9_231 ku rfl dX9_lend_41 ?_
  refine K_I2v (pc := 44) (k' := (3, 15)) mok_X3_init lk_X9_234 rfl (aok0 rfl) dX9_lend_44 (C_loanInit kq (nI c) (F 108 u)) rfl ?_
  refine G_astore (pc := 47) dX9_lend_47 (by decide) ?_
  refine G_aload_n (pc := 49) dX9_lend_49 rfl ?_
  refine G_aload (pc := 50) dX9_lend_50 rfl ?_
  refine G_putR (pc := 52) (o := some _) rfl (fun _ h => by cases h; exact (show xK (nO Z (300000 + g 19 0) 3) (300000 + g 19 0) ≠ 99 by rw [kq]; decide)) fl_X9_225 fw_1_1 ku rfl dX9_lend_52 ?_
  refine G_aload_n (pc := 55) dX9_lend_55 rfl ?_
  refine G_getIv (pc := 56) (c := 8) (i := 13) (v := nI (g 19 0)) jh.2.1.2 fl_X9_237 (sh_k jH) rfl dX9_lend_56 ?_
  refine G_aload_n (pc := 59) dX9_lend_59 rfl ?_
  refine G_getS (pc := 60) fl_X9_41 (sh_k jH) rfl (sh_r5 jH) dX9_lend_60 ?_
  refine G_alen (pc := 63) (v := nI 512) (sh_c5 jH) (by decide) (congrArg nI (sh_n5 jH)) dX9_lend_63 ?_
  refine G_icmp_geN (pc := 64) (tgt := 88) (by omega) (by omega) dX9_lend_64 (by decide) (fun c64 => ?_) (fun c64 => ?_)
  · omega
  · skip
    refine G_aload_n (pc := 67) dX9_lend_67 rfl ?_
    refine G_getS (pc := 68) fl_X9_41 (sh_k jH) rfl (sh_r5 jH) dX9_lend_68 ?_
    refine G_aload_n (pc := 71) dX9_lend_71 rfl ?_
    refine G_getIv (pc := 72) (c := 8) (i := 13) (v := nI (g 19 0)) jh.2.1.2 fl_X9_237 (sh_k jH) rfl dX9_lend_72 ?_
    refine G_aload (pc := 75) dX9_lend_75 rfl ?_
    refine G_aast (pc := 77) (j := (g 19 0)) (sh_c5 jH) (by decide) rfl (Nat.lt_of_lt_of_eq (show g 19 0 < 512 by omega) (sh_n5 jH).symm) (by omega) kq (by decide) rfl dX9_lend_77 ?_
    refine G_aload_n (pc := 78) dX9_lend_78 rfl ?_
    refine G_dup (pc := 79) dX9_lend_79 rfl ?_
    refine G_getIv (pc := 80) (c := 8) (i := 13) (v := nI (g 19 0)) jh.2.1.2 fl_X9_237 (sh_k jH) rfl dX9_lend_80 ?_
    refine G_iconst (pc := 83) (v := nI 1) dX9_lend_83 (by first | rfl | decide) ?_
    refine G_iaddN (pc := 84) dX9_lend_84 ?_
    refine G_putI (pc := 85) fl_X9_237 fw_8_13 (sh_k jH) rfl dX9_lend_85 ?_
    refine G_aload_n (pc := 88) dX9_lend_88 rfl ?_
    refine G_iload_n (pc := 89) dX9_lend_89 rfl ?_
    refine G_bipush (pc := 90) (v := nI 20) dX9_lend_90 (by first | rfl | decide) ?_
    refine K_Vn2v (pc := 92) (k' := (3, 15)) mok_X9_addDebt lk_X9_240 (sh_k jH) rfl rfl rfl (aok0 rfl) dX9_lend_92 (C_addDebt (ldy kH) hc (v := owe F c) (ldyA.trans (kd c hc)) (nI 20)) rfl ?_
    refine G_aload_n (pc := 95) dX9_lend_95 rfl ?_
    refine G_getIv (pc := 96) (c := 1) (i := 0) (v := F 108 u) (jc u hu).1 fl_X9_231 ku rfl dX9_lend_96 ?_
    refine G_iret (pc := 99) VZ.x dX9_lend_99 rfl ⟨by decide, by decide⟩ ?_
    exact ⟨congrArg (fun z => some (Value.int z)) hb, hcd, hq⟩
theorem K_lendX {Γ : GTy} {Z : HS} {n : Nat} {P : HS → FT → Prop} {F A : FT} {g : GN} (h : CI n Z F g A) {x y : Int32} (hx : ¬ (nI 0 ≤ x ∧ x ≤ nI 5)) {F' : FT} {b : Int32} (hcd : F' 25 0 = nI 1) (hq : Nx P Z Z F') : Tt Γ M_X9_lend [.ref 800000, .int x, .int y] Z (QVo P Z F' b) (QXo P Z F' [xIO, xIS]) := by
  refine Tt_of' rfl rfl rfl ?_
  show G Γ M_X9_lend (rm M_X9_lend) (Vt Γ M_X9_lend (QVo P Z F' b) (QXo P Z F' [xIO, xIS])) (0, 0) 0 [some (.ref 800000), some (.int x), some (.int y), none, none] [] Z
  have h0 := h
  obtain ⟨hH, ⟨hPI, hPG, hZo⟩, ⟨hZh, hZd, hZw⟩, ⟨hZt, hZc, hZf⟩, ⟨hZr, hZs, hZl⟩, hZfr, hZbd⟩ := h0
  refine G_aload_n (pc := 0) dX9_lend_0 rfl ?_
  refine G_iload_n (pc := 1) dX9_lend_1 rfl ?_
  refine K_V1 (pc := 2) (k' := (1, 6)) mok_X9_cueAt lk_X9_222 (sh_k hH) rfl rfl rfl (aok0 rfl) dX9_lend_2 (C_cueAtX hH hx) rfl (fun v1 Y1 q1 => ?_) (fun E1 Y1 q1 => ?_)
  · exact q1.elim
  · (obtain ⟨rfl, rfl⟩ := q1; exact GX_out rfl ⟨by decide, by decide⟩ ⟨0, rfl, hcd, hq⟩)
theorem K_lendY {Γ : GTy} {Z : HS} {n : Nat} {P : HS → FT → Prop} {F A : FT} {g : GN} (h : CI n Z F g A) {u : Nat} {y : Int32} (hu : u < 6) (hy : ¬ (nI 0 ≤ y ∧ y ≤ nI 7)) {F' : FT} {b : Int32} (hcd : F' 25 0 = nI 1) (hq : Nx P Z Z F') : Tt Γ M_X9_lend [.ref 800000, .int (nI u), .int y] Z (QVo P Z F' b) (QXo P Z F' [xIO, xIS]) := by
  refine Tt_of' rfl rfl rfl ?_
  show G Γ M_X9_lend (rm M_X9_lend) (Vt Γ M_X9_lend (QVo P Z F' b) (QXo P Z F' [xIO, xIS])) (0, 0) 0 [some (.ref 800000), some (.int (nI u)), some (.int y), none, none] [] Z
  have h0 := h
  obtain ⟨hH, ⟨hPI, hPG, hZo⟩, ⟨hZh, hZd, hZw⟩, ⟨hZt, hZc, hZf⟩, ⟨hZr, hZs, hZl⟩, hZfr, hZbd⟩ := h0
  refine G_aload_n (pc := 0) dX9_lend_0 rfl ?_
  refine G_iload_n (pc := 1) dX9_lend_1 rfl ?_
  refine K_Vn1r (pc := 2) (k' := (1, 6)) mok_X9_cueAt lk_X9_222 (sh_k hH) rfl rfl rfl (aok0 rfl) dX9_lend_2 (C_cueAtN hH hu) rfl ?_
  refine G_astore_n (pc := 5) dX9_lend_5 (by decide) ?_
  refine G_iload_n (pc := 6) dX9_lend_6 rfl ?_
  refine K_S1 (pc := 7) (k' := (2, 12)) mok_X9_requireCustomer lk_X9_79 rfl (aok0 rfl) dX9_lend_7 (C_custX hy) rfl (fun v1 Y1 q1 => ?_) (fun E1 Y1 q1 => ?_)
  · exact q1.elim
  · (obtain ⟨rfl, rfl⟩ := q1; exact GX_out rfl ⟨by decide, by decide⟩ ⟨0, rfl, hcd, hq⟩)
theorem K_lendV {Γ : GTy} {Z : HS} {n : Nat} {P : HS → FT → Prop} {F A : FT} {g : GN} (h : CI n Z F g A) {u c : Nat} (hu : u < 6) (hc : c < 8) (hl : g 4 u ≠ 0) {F' : FT} {b : Int32} (hcd : F' 25 0 = nI 2) (hq : Nx P Z Z F') : Tt Γ M_X9_lend [.ref 800000, .int (nI u), .int (nI c)] Z (QVo P Z F' b) (QXo P Z F' [xIO, xIS]) := by
  refine Tt_of' rfl rfl rfl ?_
  show G Γ M_X9_lend (rm M_X9_lend) (Vt Γ M_X9_lend (QVo P Z F' b) (QXo P Z F' [xIO, xIS])) (0, 0) 0 [some (.ref 800000), some (.int (nI u)), some (.int (nI c)), none, none] [] Z
  have h0 := h
  obtain ⟨hH, ⟨hPI, hPG, hZo⟩, ⟨hZh, hZd, hZw⟩, ⟨hZt, hZc, hZf⟩, ⟨hZr, hZs, hZl⟩, hZfr, hZbd⟩ := h0
  refine G_aload_n (pc := 0) dX9_lend_0 rfl ?_
  refine G_iload_n (pc := 1) dX9_lend_1 rfl ?_
  refine K_Vn1r (pc := 2) (k' := (1, 6)) mok_X9_cueAt lk_X9_222 (sh_k hH) rfl rfl rfl (aok0 rfl) dX9_lend_2 (C_cueAtN hH hu) rfl ?_
  refine G_astore_n (pc := 5) dX9_lend_5 (by decide) ?_
  refine G_iload_n (pc := 6) dX9_lend_6 rfl ?_
  refine K_Sn1v (pc := 7) (k' := (2, 12)) mok_X9_requireCustomer lk_X9_79 rfl (aok0 rfl) dX9_lend_7 (C_custN hc) rfl ?_
  refine G_aload_n (pc := 10) dX9_lend_10 rfl ?_
  refine G_getS (pc := 11) fl_X9_225 (hH.2.2.2.1 u hu).1 rfl ((hZc u hu).2.2 hl).1 dX9_lend_11 ?_
  refine G_ifnonnull_r (pc := 14) (tgt := 25) dX9_lend_14 (by decide) ?_
  refine G_throw (pc := 25)  tw_X9_229 rfl dX9_lend_25 dX9_lend_28 dX9_lend_29 dX9_lend_31 dX9_lend_34 ⟨by decide, Nat.le_of_ble_eq_true rfl, by decide, by decide⟩ ⟨by decide, by decide⟩ ?_
  exact ⟨1, rfl, hcd, hq⟩
theorem K_lendW {Γ : GTy} {Z : HS} {n : Nat} {P : HS → FT → Prop} {F A : FT} {g : GN} (h : CI n Z F g A) {u c w : Nat} (hu : u < 6) (hc : c < 8) (hl : g 4 u = 0) (hw : w < 6) (he : F 107 w = nI (c + 1)) {F' : FT} {b : Int32} (hcd : F' 25 0 = nI 2) (hq : Nx P Z Z F') : Tt Γ M_X9_lend [.ref 800000, .int (nI u), .int (nI c)] Z (QVo P Z F' b) (QXo P Z F' [xIO, xIS]) := by
  refine Tt_of' rfl rfl rfl ?_
  show G Γ M_X9_lend (rm M_X9_lend) (Vt Γ M_X9_lend (QVo P Z F' b) (QXo P Z F' [xIO, xIS])) (0, 0) 0 [some (.ref 800000), some (.int (nI u)), some (.int (nI c)), none, none] [] Z
  have h0 := h
  obtain ⟨hH, ⟨hPI, hPG, hZo⟩, ⟨hZh, hZd, hZw⟩, ⟨hZt, hZc, hZf⟩, ⟨hZr, hZs, hZl⟩, hZfr, hZbd⟩ := h0
  refine G_aload_n (pc := 0) dX9_lend_0 rfl ?_
  refine G_iload_n (pc := 1) dX9_lend_1 rfl ?_
  refine K_Vn1r (pc := 2) (k' := (1, 6)) mok_X9_cueAt lk_X9_222 (sh_k hH) rfl rfl rfl (aok0 rfl) dX9_lend_2 (C_cueAtN hH hu) rfl ?_
  refine G_astore_n (pc := 5) dX9_lend_5 (by decide) ?_
  refine G_iload_n (pc := 6) dX9_lend_6 rfl ?_
  refine K_Sn1v (pc := 7) (k' := (2, 12)) mok_X9_requireCustomer lk_X9_79 rfl (aok0 rfl) dX9_lend_7 (C_custN hc) rfl ?_
  refine G_aload_n (pc := 10) dX9_lend_10 rfl ?_
  refine G_getN (pc := 11) fl_X9_225 (hH.2.2.2.1 u hu).1 rfl ((hZc u hu).2.1 hl) dX9_lend_11 ?_
  refine G_ifnonnull_n (pc := 14) dX9_lend_14 ?_
  refine G_aload_n (pc := 17) dX9_lend_17 rfl ?_
  refine G_iload_n (pc := 18) dX9_lend_18 rfl ?_
  refine K_Vn1r (pc := 19) (k' := (2, 12)) mok_X9_cueHeldBy lk_X9_191 (sh_k hH) rfl rfl rfl (aok0 rfl) dX9_lend_19 (C_cueHeldS h hc hw he) rfl ?_
  refine G_ifnull_r (pc := 22) dX9_lend_22 ?_
  refine G_throw (pc := 25)  tw_X9_229 rfl dX9_lend_25 dX9_lend_28 dX9_lend_29 dX9_lend_31 dX9_lend_34 ⟨by decide, Nat.le_of_ble_eq_true rfl, by decide, by decide⟩ ⟨by decide, by decide⟩ ?_
  exact ⟨1, rfl, hcd, hq⟩
