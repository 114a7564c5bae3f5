-- ===== pass: the calls =====
theorem ps_k {Z : HS} (hH : SH Z) {F : FT} {hs : Nat → Nat} {m i j : Nat} {v : Int32} (hj : j < 4) : xK (psZ (sI Z 8 15 800000 v) F hs m i) (700000 + j) = 7 := by
  rw [ps_R.2.2.2.1, xK_sI']
  exact (hH.2.2.1 j hj).1
theorem ps_c {Z : HS} (hH : SH Z) {F : FT} {hs : Nat → Nat} {m i : Nat} {v : Int32} : xK (psZ (sI Z 8 15 800000 v) F hs m i) 1800000 = 17 := by
  rw [ps_R.2.2.2.1, xK_sI']
  exact sh_c0 hH
theorem ps_n {Z : HS} (hH : SH Z) {F : FT} {hs : Nat → Nat} {m i : Nat} {v : Int32} : xn (psZ (sI Z 8 15 800000 v) F hs m i) 1800000 = 4 := by
  rw [ps_R.2.2.2.2.1, xn_sI']
  exact sh_n0 hH
theorem ps_p {Z : HS} (hH : SH Z) {F : FT} {hs : Nat → Nat} {m i j : Nat} {v : Int32} (hj : j < 4) : xP (psZ (sI Z 8 15 800000 v) F hs m i) 1800000 j = some (700000 + j) := by
  rw [ps_R.2.2.1, xP_sI']
  exact (hH.2.2.1 j hj).2
theorem C_cnt0 {Γ : GTy} {Z : HS} {q : Nat} (hk : xK Z q = 7) (hl : xR Z 7 1 q = none) : Tn Γ M_X8_isCounting [.ref q] Z (rt (some (.int (nI 0))) Z) := by
  refine Tn_of' rfl rfl rfl ?_
  show G Γ M_X8_isCounting (rm M_X8_isCounting) (Vn Γ M_X8_isCounting (rt (some (.int (nI 0))) Z)) (0, 0) 0 [some (.ref q)] [] Z
  refine G_aload_n (pc := 0) dX8_isCounting_0 rfl ?_
  refine G_getN (pc := 1) fl_X8_13 hk rfl hl dX8_isCounting_1 ?_
  refine G_ifnull_n (pc := 4) (tgt := 28) dX8_isCounting_4 (by decide) ?_
  refine G_iconst (pc := 28) (v := nI 0) dX8_isCounting_28 (by first | rfl | decide) ?_
  refine G_zret (pc := 29) VZ.n dX8_isCounting_29 rfl (Or.inl rfl) ⟨by decide, by decide⟩ ?_
  exact ⟨rfl, rfl⟩
theorem C_cnt1 {Γ : GTy} {Z : HS} {q l : Nat} (hk : xK Z q = 7) (hl : xR Z 7 1 q = some l) (hk5 : xK Z l = 5) (hf : xR Z 7 3 q = none) : Tn Γ M_X8_isCounting [.ref q] Z (rt (some (.int (nI 1))) Z) := by
  refine Tn_of' rfl rfl rfl ?_
  show G Γ M_X8_isCounting (rm M_X8_isCounting) (Vn Γ M_X8_isCounting (rt (some (.int (nI 1))) Z)) (0, 0) 0 [some (.ref q)] [] Z
  refine G_aload_n (pc := 0) dX8_isCounting_0 rfl ?_
  refine G_getS (pc := 1) fl_X8_13 hk rfl hl dX8_isCounting_1 ?_
  refine G_ifnull_r (pc := 4) dX8_isCounting_4 ?_
  refine G_aload_n (pc := 7) dX8_isCounting_7 rfl ?_
  refine G_getN (pc := 8) fl_X8_23 hk rfl hf dX8_isCounting_8 ?_
  refine G_ifnull_n (pc := 11) (tgt := 24) dX8_isCounting_11 (by decide) ?_
  refine G_iconst (pc := 24) (v := nI 1) dX8_isCounting_24 (by first | rfl | decide) ?_
  refine G_goto (pc := 25) (tgt := 29) dX8_isCounting_25 (by decide) ?_
  refine G_zret (pc := 29) VZ.n dX8_isCounting_29 rfl (Or.inr rfl) ⟨by decide, by decide⟩ ?_
  exact ⟨rfl, rfl⟩
theorem C_cnt2 {Γ : GTy} {Z : HS} {q l f : Nat} {w : Int32} (hk : xK Z q = 7) (hl : xR Z 7 1 q = some l) (hk5 : xK Z l = 5) (hf : xR Z 7 3 q = some f) (hk2 : xK Z f = 2) (hw : xI Z 2 3 f = w) : Tn Γ M_X8_isCounting [.ref q] Z (rt (some (.int (b2 (w = 0)))) Z) := by
  refine Tn_of' rfl rfl rfl ?_
  show G Γ M_X8_isCounting (rm M_X8_isCounting) (Vn Γ M_X8_isCounting (rt (some (.int (b2 (w = 0)))) Z)) (0, 0) 0 [some (.ref q)] [] Z
  refine G_aload_n (pc := 0) dX8_isCounting_0 rfl ?_
  refine G_getS (pc := 1) fl_X8_13 hk rfl hl dX8_isCounting_1 ?_
  refine G_ifnull_r (pc := 4) dX8_isCounting_4 ?_
  refine G_aload_n (pc := 7) dX8_isCounting_7 rfl ?_
  refine G_getS (pc := 8) fl_X8_23 hk rfl hf dX8_isCounting_8 ?_
  refine G_ifnull_r (pc := 11) dX8_isCounting_11 ?_
  refine G_aload_n (pc := 14) dX8_isCounting_14 rfl ?_
  refine G_getS (pc := 15) fl_X8_23 hk rfl hf dX8_isCounting_15 ?_
  refine G_getIv (pc := 18) (c := 2) (i := 3) (v := w) hw fl_X8_27 hk2 rfl dX8_isCounting_18 ?_
  refine G_if_ne (pc := 21) (tgt := 28) dX8_isCounting_21 (by decide) (fun c21 => ?_) (fun c21 => ?_)
  · skip
    have e9 := b2_f (p := w = 0) c21
    refine G_iconst (pc := 28) (v := nI 0) dX8_isCounting_28 (by first | rfl | decide) ?_
    refine G_zret (pc := 29) VZ.n dX8_isCounting_29 rfl (Or.inl rfl) ⟨by decide, by decide⟩ ?_
    exact ⟨congrArg (fun z => some (Value.int z)) e9.symm, rfl⟩
  · skip
    have e9 := b2_t (p := w = 0) c21
    refine G_iconst (pc := 24) (v := nI 1) dX8_isCounting_24 (by first | rfl | decide) ?_
    refine G_goto (pc := 25) (tgt := 29) dX8_isCounting_25 (by decide) ?_
    refine G_zret (pc := 29) VZ.n dX8_isCounting_29 rfl (Or.inr rfl) ⟨by decide, by decide⟩ ?_
    exact ⟨congrArg (fun z => some (Value.int z)) e9.symm, rfl⟩
theorem C_counting {Γ : GTy} {n : Nat} {Z W : HS} {F A : FT} {g : GN} (h : CI n Z F g A) {i : Nat} (hi : i < 4) (hK : xK W = xK Z) (hR : xR W = xR Z) (hI : ∀ a, xI W 2 3 a = xI Z 2 3 a) : Tn Γ M_X8_isCounting [.ref (700000 + i)] W (rt (some (.int (b2 (cnT F (g 1) i)))) W) := by
  have h0 := h
  obtain ⟨hH, ⟨hPI, hPG, hZo⟩, ⟨hZh, hZd, hZw⟩, ⟨hZt, hZc, hZf⟩, ⟨hZr, hZs, hZl⟩, hZfr, hZbd⟩ := h0
  have hk : xK W (700000 + i) = 7 := by rw [hK]; exact (hH.2.2.1 i hi).1
  have e := (hPI.2.1 i hi)
  have t := hZt i hi
  by_cases z : g 0 i = 0
  · rw [b2_f (fun q => ((cnT_iff hPI hi).mp q).1 z)]
    exact C_cnt0 hk (by rw [hR]; exact t.2.1 z)
  · have hl : xR W 7 1 (700000 + i) = some (500000 + g 2 i) := by rw [hR]; exact (t.2.2.1 z).1
    have hk5 : xK W (500000 + g 2 i) = 5 := by rw [hK]; exact (hZr _ (hPG.2.1 i hi z).1).1
    by_cases f : g 1 i = 0
    · rw [b2_t ((cnT_iff hPI hi).mpr ⟨z, fun q => q.1 f⟩)]
      exact C_cnt1 hk hl hk5 (by rw [hR]; exact t.2.2.2.1 f)
    · have hf : g 1 i - 1 < g 16 0 := by have := e.2.2.1.2; omega
      rw [b2_eq (q := F 112 (g 1 i - 1) = 0) ⟨fun q => Decidable.byContradiction (fun w => ((cnT_iff hPI hi).mp q).2 ⟨f, w⟩), fun q => (cnT_iff hPI hi).mpr ⟨z, fun w => w.2 q⟩⟩]
      exact C_cnt2 hk hl hk5 (by rw [hR]; exact t.2.2.2.2.1 f) (by rw [hK]; exact (hZf _ hf).1.1) (by rw [hI]; exact (hZf _ hf).2.2.1.2.2.2)
theorem K_passN {Γ : GTy} {Z : HS} {n : Nat} {P : HS → FT → Prop} {F A : FT} {g : GN} (h : CI n Z F g A) {m : Nat} (hx : nI 1 ≤ nI m ∧ nI m ≤ nI 200) (hm : g 15 0 + m ≤ 10000) {F' : FT} {b : Int32} (hb : pN F (g 1) (nI m) 4 = b) (hcd : F' 25 0 = nI 0) (hq : Nx P Z (psZ (sI Z 8 15 800000 (nI (g 15 0 + m))) F (g 1) m 4) F') : Tt Γ M_X9_pass [.ref 800000, .int (nI m)] Z (QVo P Z F' b) (QXo P Z F' [xIA, xIS]) := by
  refine Tt_of' rfl rfl rfl ?_
  show G Γ M_X9_pass (rm M_X9_pass) (Vt Γ M_X9_pass (QVo P Z F' b) (QXo P Z F' [xIA, xIS])) (0, 0) 0 [some (.ref 800000), some (.int (nI m)), none, none, none, none, none] [] Z
  have h0 := h
  obtain ⟨hH, ⟨hPI, hPG, hZo⟩, ⟨hZh, hZd, hZw⟩, ⟨hZt, hZc, hZf⟩, ⟨hZr, hZs, hZl⟩, hZfr, hZbd⟩ := h0
  have loop : ∀ (n9 j : Nat) (v6 : Option Value), j + n9 = 4 → G Γ M_X9_pass (rm M_X9_pass) (Vt Γ M_X9_pass (QVo P Z F' b) (QXo P Z F' [xIA, xIS])) (1, 6) 54 [some (.ref 800000), some (.int (nI m)), some (.int (pN F (g 1) (nI m) j)), some (.ref 1800000), some (.int (nI 4)), some (.int (nI j)), v6] [] (psZ (sI Z 8 15 800000 (nI (g 15 0 + m))) F (g 1) m j) := by
    intro n9
    induction n9 with
    | zero =>
      intro j v6 hj
      obtain rfl : j = 4 := by omega
      refine G_iload (pc := 54) dX9_pass_54 rfl ?_
      refine G_iload (pc := 56) dX9_pass_56 rfl ?_
      refine G_icmp_geN (pc := 58) (tgt := 101) (by omega) (by omega) dX9_pass_58 (by decide) (fun c58 => ?_) (fun c58 => ?_)
      · skip
        refine G_iload_n (pc := 101) dX9_pass_101 rfl ?_
        refine G_iret (pc := 102) VZ.x dX9_pass_102 rfl ⟨by decide, by decide⟩ ?_
        exact ⟨congrArg (fun z => some (Value.int z)) hb, hcd, hq⟩
      · omega
    | succ n9 ih =>
      intro j v6 hj
      have hj9 : j < 4 := by omega
      refine G_iload (pc := 54) dX9_pass_54 rfl ?_
      refine G_iload (pc := 56) dX9_pass_56 rfl ?_
      refine G_icmp_geN (pc := 58) (tgt := 101) (by omega) (by omega) dX9_pass_58 (by decide) (fun c58 => ?_) (fun c58 => ?_)
      · omega
      · skip
        refine G_aload_n (pc := 61) dX9_pass_61 rfl ?_
        refine G_iload (pc := 62) dX9_pass_62 rfl ?_
        refine G_aaldS (pc := 64) (j := j) (ps_c hH) (by decide) rfl (Nat.lt_of_lt_of_eq hj9 (ps_n hH).symm) (by omega) (ps_p hH hj9) dX9_pass_64 ?_
        refine G_astore (pc := 65) dX9_pass_65 (by decide) ?_
        refine G_aload (pc := 67) dX9_pass_67 rfl ?_
        refine G_ifnull_r (pc := 69) dX9_pass_69 ?_
        refine G_aload (pc := 72) dX9_pass_72 rfl ?_
        refine K_Vn0r (pc := 74) (k' := (1, 6)) mok_X8_isCounting lk_X9_136 (ps_k hH hj9) rfl rfl rfl (aok0 rfl) dX9_pass_74 (C_counting h hj9 (ps_R.2.2.2.1.trans rfl) (ps_R.1.trans rfl) (fun a => (ps_o (fun l hl w => absurd w.1 (by decide))).trans (xI_sI (fun w => absurd w.1 (by decide))))) rfl ?_
        refine G_if_eqB (pc := 77) (tgt := 95) dX9_pass_77 (by decide) (fun c77 => ?_) (fun c77 => ?_)
        · skip
          refine G_iincN (pc := 95) dX9_pass_95 rfl (by decide) ?_
          refine G_goto (pc := 98) (tgt := 54) dX9_pass_98 (by decide) ?_
          have h9 := ih (j + 1) (some (.ref (700000 + j))) (by omega)
          first
            | (rw [psZ_f c77, pN_f c77, show (nI 0 : Int32) = 0 from rfl, Int32.add_zero] at h9; exact h9)
            | (rw [psZ_t c77, pN_t c77] at h9; exact h9)
        · skip
          refine G_aload (pc := 80) dX9_pass_80 rfl ?_
          refine G_dup (pc := 82) dX9_pass_82 rfl ?_
          refine G_getIv (pc := 83) (c := 7) (i := 2) (v := xI (sI Z 8 15 800000 (nI (g 15 0 + m))) 7 2 (700000 + j)) (ps_o (fun l hl w => by omega)) fl_X9_107 (ps_k hH hj9) rfl dX9_pass_83 ?_
          refine G_iload_n (pc := 86) dX9_pass_86 rfl ?_
          refine G_iadd (pc := 87) dX9_pass_87 ?_
          refine G_putI (pc := 88) fl_X9_107 fw_7_2 (ps_k hH hj9) rfl dX9_pass_88 ?_
          refine G_iload_n (pc := 91) dX9_pass_91 rfl ?_
          refine G_iload_n (pc := 92) dX9_pass_92 rfl ?_
          refine G_iadd (pc := 93) dX9_pass_93 ?_
          refine G_istore_n (pc := 94) dX9_pass_94 (by decide) ?_
          refine G_iincN (pc := 95) dX9_pass_95 rfl (by decide) ?_
          refine G_goto (pc := 98) (tgt := 54) dX9_pass_98 (by decide) ?_
          have h9 := ih (j + 1) (some (.ref (700000 + j))) (by omega)
          first
            | (rw [psZ_f c77, pN_f c77, show (nI 0 : Int32) = 0 from rfl, Int32.add_zero] at h9; exact h9)
            | (rw [psZ_t c77, pN_t c77] at h9; exact h9)
  refine G_iload_n (pc := 0) dX9_pass_0 rfl ?_
  refine G_iconst (pc := 1) (v := nI 1) dX9_pass_1 (by first | rfl | decide) ?_
  refine G_sipush (pc := 2) (v := nI 200) dX9_pass_2 (by first | rfl | decide) ?_
  refine K_Sn3v (pc := 5) (k' := (1, 6)) mok_X9_requireRange lk_X9_71 rfl (aok0 rfl) dX9_pass_5 (C_rangeN hx) rfl ?_
  refine G_aload_n (pc := 8) dX9_pass_8 rfl ?_
  refine G_getIv (pc := 9) (c := 8) (i := 15) (v := nI (g 15 0)) hZh.2.2.2 fl_X9_102 (sh_k hH) rfl dX9_pass_9 ?_
  refine G_iload_n (pc := 12) dX9_pass_12 rfl ?_
  refine G_iaddN (pc := 13) dX9_pass_13 ?_
  refine G_sipush (pc := 14) (v := nI 10000) dX9_pass_14 (by first | rfl | decide) ?_
  refine G_icmp_leN (pc := 17) (tgt := 30) (by omega) (by omega) dX9_pass_17 (by decide) (fun c17 => ?_) (fun c17 => ?_)
  · skip
    refine G_aload_n (pc := 30) dX9_pass_30 rfl ?_
    refine G_dup (pc := 31) dX9_pass_31 rfl ?_
    refine G_getIv (pc := 32) (c := 8) (i := 15) (v := nI (g 15 0)) hZh.2.2.2 fl_X9_102 (sh_k hH) rfl dX9_pass_32 ?_
    refine G_iload_n (pc := 35) dX9_pass_35 rfl ?_
    refine G_iaddN (pc := 36) dX9_pass_36 ?_
    refine G_putI (pc := 37) fl_X9_102 fw_8_15 (sh_k hH) rfl dX9_pass_37 ?_
    refine G_iconst (pc := 40) (v := nI 0) dX9_pass_40 (by first | rfl | decide) ?_
    refine G_istore_n (pc := 41) dX9_pass_41 (by decide) ?_
    refine G_aload_n (pc := 42) dX9_pass_42 rfl ?_
    refine G_getS (pc := 43) fl_X9_11 (sh_k hH) rfl (sh_r0 hH) dX9_pass_43 ?_
    refine G_astore_n (pc := 46) dX9_pass_46 (by decide) ?_
    refine G_aload_n (pc := 47) dX9_pass_47 rfl ?_
    refine G_alen (pc := 48) (v := nI 4) (sh_c0 hH) (by decide) (congrArg nI (sh_n0 hH)) dX9_pass_48 ?_
    refine G_istore (pc := 49) dX9_pass_49 (by decide) ?_
    refine G_iconst (pc := 51) (v := nI 0) dX9_pass_51 (by first | rfl | decide) ?_
    refine G_istore (pc := 52) dX9_pass_52 (by decide) ?_
    exact loop 4 0 _ rfl
  · omega
theorem K_passX {Γ : GTy} {Z : HS} {n : Nat} {P : HS → FT → Prop} {F A : FT} {g : GN} (h : CI n Z F g A) {x : Int32} (hx : ¬ (nI 1 ≤ x ∧ x ≤ nI 200)) {F' : FT} {b : Int32} (hcd : F' 25 0 = nI 1) (hq : Nx P Z Z F') : Tt Γ M_X9_pass [.ref 800000, .int x] Z (QVo P Z F' b) (QXo P Z F' [xIA, xIS]) := by
  refine Tt_of' rfl rfl rfl ?_
  show G Γ M_X9_pass (rm M_X9_pass) (Vt Γ M_X9_pass (QVo P Z F' b) (QXo P Z F' [xIA, xIS])) (0, 0) 0 [some (.ref 800000), some (.int x), none, none, none, none, none] [] Z
  have h0 := h
  obtain ⟨hH, ⟨hPI, hPG, hZo⟩, ⟨hZh, hZd, hZw⟩, ⟨hZt, hZc, hZf⟩, ⟨hZr, hZs, hZl⟩, hZfr, hZbd⟩ := h0
  refine G_iload_n (pc := 0) dX9_pass_0 rfl ?_
  refine G_iconst (pc := 1) (v := nI 1) dX9_pass_1 (by first | rfl | decide) ?_
  refine G_sipush (pc := 2) (v := nI 200) dX9_pass_2 (by first | rfl | decide) ?_
  refine K_S3 (pc := 5) (k' := (1, 6)) mok_X9_requireRange lk_X9_71 rfl (aok0 rfl) dX9_pass_5 (C_rangeX hx) rfl (fun v1 Y1 q1 => ?_) (fun E1 Y1 q1 => ?_)
  · exact q1.elim
  · (obtain ⟨rfl, rfl⟩ := q1; exact GX_out rfl ⟨by decide, by decide⟩ ⟨0, rfl, hcd, hq⟩)
theorem K_passY {Γ : GTy} {Z : HS} {n : Nat} {P : HS → FT → Prop} {F A : FT} {g : GN} (h : CI n Z F g A) {m : Nat} (hx : nI 1 ≤ nI m ∧ nI m ≤ nI 200) (m2 : m ≤ 200) (hm : ¬ g 15 0 + m ≤ 10000) {F' : FT} {b : Int32} (hcd : F' 25 0 = nI 2) (hq : Nx P Z Z F') : Tt Γ M_X9_pass [.ref 800000, .int (nI m)] Z (QVo P Z F' b) (QXo P Z F' [xIA, xIS]) := by
  refine Tt_of' rfl rfl rfl ?_
  show G Γ M_X9_pass (rm M_X9_pass) (Vt Γ M_X9_pass (QVo P Z F' b) (QXo P Z F' [xIA, xIS])) (0, 0) 0 [some (.ref 800000), some (.int (nI m)), none, none, none, none, none] [] Z
  have h0 := h
  obtain ⟨hH, ⟨hPI, hPG, hZo⟩, ⟨hZh, hZd, hZw⟩, ⟨hZt, hZc, hZf⟩, ⟨hZr, hZs, hZl⟩, hZfr, hZbd⟩ := h0
  refine G_iload_n (pc := 0) dX9_pass_0 rfl ?_
  refine G_iconst (pc := 1) (v := nI 1) dX9_pass_1 (by first | rfl | decide) ?_
  refine G_sipush (pc := 2) (v := nI 200) dX9_pass_2 (by first | rfl | decide) ?_
  refine K_Sn3v (pc := 5) (k' := (1, 6)) mok_X9_requireRange lk_X9_71 rfl (aok0 rfl) dX9_pass_5 (C_rangeN hx) rfl ?_
  refine G_aload_n (pc := 8) dX9_pass_8 rfl ?_
  refine G_getIv (pc := 9) (c := 8) (i := 15) (v := nI (g 15 0)) hZh.2.2.2 fl_X9_102 (sh_k hH) rfl dX9_pass_9 ?_
  refine G_iload_n (pc := 12) dX9_pass_12 rfl ?_
  have b9 := hPI.1.1.2
  refine G_iaddN (pc := 13) dX9_pass_13 ?_
  refine G_sipush (pc := 14) (v := nI 10000) dX9_pass_14 (by first | rfl | decide) ?_
  refine G_icmp_leN (pc := 17) (tgt := 30) (by omega) (by omega) dX9_pass_17 (by decide) (fun c17 => ?_) (fun c17 => ?_)
  · exact absurd c17 hm
  · skip
    refine G_throw (pc := 20)  tw_X9_134 rfl dX9_pass_20 dX9_pass_23 dX9_pass_24 dX9_pass_26 dX9_pass_29 ⟨by decide, Nat.le_of_ble_eq_true rfl, by decide, by decide⟩ ⟨by decide, by decide⟩ ?_
    exact ⟨1, rfl, hcd, hq⟩
