-- ===== setPrice, mend, tip =====
theorem Zf_c {Z : HS} {F F' : FT} {g : GN} (h : ∀ s j, 111 ≤ s → s ≤ 118 → F' s j = F s j) (q : Zf Z F g) : Zf Z F' g := by
  intro f hf
  have := q f hf
  rw [h 111 _ (by decide) (by decide), h 111 _ (by decide) (by decide), h 112 _ (by decide) (by decide)]
  refine ⟨this.1, this.2.1, this.2.2.1, ⟨fun k h1 h2 => ?_, fun j hj => ?_⟩, this.2.2.2.2⟩
  · rw [h (fs k) _ (by unfold fs; split <;> decide) (by unfold fs; split <;> decide)]; exact this.2.2.2.1.1 k h1 h2
  · rw [h 118 _ (by decide) (by decide)]; exact this.2.2.2.1.2 j hj
theorem CIu_price {n : Nat} {Z : HS} {F A : FT} {g : GN} (h : CI n Z F g A) (hn : n < 512) (x : Int32) : CI (n + 1) (sI Z 8 14 800000 x) (u2 (thr F (nI 0)) 1 0 x) g A := by
  have h0 := h
  obtain ⟨hH, ⟨hPI, hPG, hZo⟩, ⟨hZh, hZd, hZw⟩, ⟨hZt, hZc, hZf⟩, ⟨hZr, hZs, hZl⟩, hZfr, hZbd⟩ := h0
  unfold Zbd at hZbd
  exact ⟨hH, ⟨hPI, hPG, hZo⟩, ⟨⟨hZh.1, hZh.2.1, rfl, hZh.2.2.2⟩, hZd, hZw⟩, ⟨hZt, hZc, Zf_c (F := F) (fun s j h1 h2 => (u2_s (by omega)).trans (u2_s (by omega))) hZf⟩, ⟨hZr, hZs, hZl⟩, hZfr, by unfold Zbd; omega⟩
theorem mendF (F : FT) (t : Nat) (v : Int32) (s : Nat) (h1 : 111 ≤ s) (h2 : s ≤ 118) (j : Nat) : u2 (thr (thr F (nI 0)) (nI 0)) 102 t v s j = F s j := (u2_s (by omega)).trans ((u2_s (by omega)).trans (u2_s (by omega)))
theorem CIu_open {n : Nat} {Z : HS} {F A : FT} {g : GN} (h : CI n Z F g A) (hn : n < 512) {t : Nat} (ht : t < 4) {v : Int32} (hv : v = 0 ∨ v = 1) : CI (n + 1) (sI Z 7 0 (700000 + t) (b2 (v = 0))) (u2 (thr (thr F (nI 0)) (nI 0)) 102 t v) g A := by
  have h0 := h
  obtain ⟨hH, ⟨hPI, hPG, hZo⟩, ⟨hZh, hZd, hZw⟩, ⟨hZt, hZc, hZf⟩, ⟨hZr, hZs, hZl⟩, hZfr, hZbd⟩ := h0
  unfold Zbd at hZbd
  refine ⟨hH, ⟨⟨hPI.1, fun i hi => ⟨?_, (hPI.2.1 i hi).2⟩, hPI.2.2⟩, hPG, hZo⟩, ⟨hZh, hZd, hZw⟩, ⟨fun i hi => ⟨?_, (hZt i hi).2⟩, hZc, Zf_c (F := F) (fun s j h1 h2 => mendF F t v s h1 h2 j) hZf⟩, ⟨hZr, hZs, hZl⟩, hZfr, by unfold Zbd; omega⟩
  · by_cases e : i = t
    · rw [e, u2_e]; exact hv
    · rw [u2_j e]; exact (hPI.2.1 i hi).1
  · by_cases e : i = t
    · subst e
      exact (show u3 (xI Z) 7 0 (700000 + i) (b2 (v = 0)) 7 0 (700000 + i) = b2 (v = 0) from if_pos ⟨rfl, rfl, rfl⟩).trans (b2_eq (by rw [u2_e]))
    · refine (show u3 (xI Z) 7 0 (700000 + t) (b2 (v = 0)) 7 0 (700000 + i) = _ from if_neg (fun w => by have := w.2.2; omega)).trans ((hZt i hi).1.trans (b2_eq ?_))
      rw [u2_j e]
      rfl
theorem CIu_tip {n : Nat} {Z : HS} {F A : FT} {g : GN} (h : CI n Z F g A) (hn : n < 512) {u : Nat} (hu : u < 6) (hl : g 4 u = 0) : CI (n + 1) (sI Z 1 0 (100000 + u) (nI 0)) (u2 (thr (thr F (nI 0)) (nI 0)) 108 u (nI 0)) g A := by
  have h0 := h
  obtain ⟨hH, ⟨hPI, hPG, hZo⟩, ⟨hZh, hZd, hZw⟩, ⟨hZt, hZc, hZf⟩, ⟨hZr, hZs, hZl⟩, hZfr, hZbd⟩ := h0
  unfold Zbd at hZbd
  refine ⟨hH, ⟨⟨hPI.1, hPI.2.1, fun v hv => ⟨(hPI.2.2.1 v hv).1, ?_⟩, hPI.2.2.2⟩, hPG, hZo⟩, ⟨hZh, hZd, hZw⟩, ⟨hZt, fun v hv => ⟨?_, (hZc v hv).2⟩, Zf_c (F := F) (fun s j h1 h2 => (u2_s (by omega)).trans ((u2_s (by omega)).trans (u2_s (by omega)))) hZf⟩, ⟨hZr, hZs, hZl⟩, hZfr, by unfold Zbd; omega⟩
  · by_cases e : v = u
    · rw [e, u2_e]
      exact ⟨0, by decide, rfl⟩
    · rw [u2_j e]
      exact (hPI.2.2.1 v hv).2
  · by_cases e : v = u
    · subst e
      rw [u2_e]
      exact (if_pos ⟨rfl, rfl, rfl⟩ : u3 (xI Z) 1 0 (100000 + v) (nI 0) 1 0 (100000 + v) = nI 0)
    · refine (show u3 (xI Z) 1 0 (100000 + u) (nI 0) 1 0 (100000 + v) = _ from if_neg (fun w => by have := w.2.2; omega)).trans ((hZc v hv).1.trans ?_)
      rw [u2_j e]
      rfl
theorem K_setPriceN {Γ : GTy} {Z : HS} {n : Nat} {P : HS → FT → Prop} {F A : FT} {g : GN} (h : CI n Z F g A) {x : Int32} (hx : nI 0 ≤ x ∧ x ≤ nI 50) {F' : FT} {b : Int32} (hb : F 1 0 = b) (hcd : F' 25 0 = nI 0) (hq : Nx P Z (sI Z 8 14 800000 x) F') : Tt Γ M_X9_setPrice [.ref 800000, .int x] Z (QVo P Z F' b) (QXo P Z F' [xIA]) := by
  refine Tt_of' rfl rfl rfl ?_
  show G Γ M_X9_setPrice (rm M_X9_setPrice) (Vt Γ M_X9_setPrice (QVo P Z F' b) (QXo P Z F' [xIA])) (0, 0) 0 [some (.ref 800000), some (.int x), none] [] Z
  have h0 := h
  obtain ⟨hH, ⟨hPI, hPG, hZo⟩, ⟨hZh, hZd, hZw⟩, ⟨hZt, hZc, hZf⟩, ⟨hZr, hZs, hZl⟩, hZfr, hZbd⟩ := h0
  refine G_iload_n (pc := 0) dX9_setPrice_0 rfl ?_
  refine G_iconst (pc := 1) (v := nI 0) dX9_setPrice_1 (by first | rfl | decide) ?_
  refine G_bipush (pc := 2) (v := nI 50) dX9_setPrice_2 (by first | rfl | decide) ?_
  refine K_Sn3v (pc := 4) (k' := (1, 6)) mok_X9_requireRange lk_X9_71 rfl (aok0 rfl) dX9_setPrice_4 (C_rangeN hx) rfl ?_
  refine G_aload_n (pc := 7) dX9_setPrice_7 rfl ?_
  refine G_getIv (pc := 8) (v := F 1 0) hZh.2.2.1 fl_X9_65 (sh_k hH) rfl dX9_setPrice_8 ?_
  refine G_istore_n (pc := 11) dX9_setPrice_11 (by decide) ?_
  refine G_aload_n (pc := 12) dX9_setPrice_12 rfl ?_
  refine G_iload_n (pc := 13) dX9_setPrice_13 rfl ?_
  refine G_putI (pc := 14) fl_X9_65 fw_8_14 (sh_k hH) rfl dX9_setPrice_14 ?_
  refine G_iload_n (pc := 17) dX9_setPrice_17 rfl ?_
  refine G_iret (pc := 18) VZ.x dX9_setPrice_18 rfl ⟨by decide, by decide⟩ ?_
  exact ⟨congrArg (fun z => some (Value.int z)) hb, hcd, hq⟩
theorem K_setPriceX {Γ : GTy} {Z : HS} {n : Nat} {P : HS → FT → Prop} {F A : FT} {g : GN} (h : CI n Z F g A) {x : Int32} (hx : ¬ (nI 0 ≤ x ∧ x ≤ nI 50)) {F' : FT} {b : Int32} (hcd : F' 25 0 = nI 1) (hq : Nx P Z Z F') : Tt Γ M_X9_setPrice [.ref 800000, .int x] Z (QVo P Z F' b) (QXo P Z F' [xIA]) := by
  refine Tt_of' rfl rfl rfl ?_
  show G Γ M_X9_setPrice (rm M_X9_setPrice) (Vt Γ M_X9_setPrice (QVo P Z F' b) (QXo P Z F' [xIA])) (0, 0) 0 [some (.ref 800000), some (.int x), none] [] Z
  have h0 := h
  obtain ⟨hH, ⟨hPI, hPG, hZo⟩, ⟨hZh, hZd, hZw⟩, ⟨hZt, hZc, hZf⟩, ⟨hZr, hZs, hZl⟩, hZfr, hZbd⟩ := h0
  refine G_iload_n (pc := 0) dX9_setPrice_0 rfl ?_
  refine G_iconst (pc := 1) (v := nI 0) dX9_setPrice_1 (by first | rfl | decide) ?_
  refine G_bipush (pc := 2) (v := nI 50) dX9_setPrice_2 (by first | rfl | decide) ?_
  refine K_S3 (pc := 4) (k' := (1, 6)) mok_X9_requireRange lk_X9_71 rfl (aok0 rfl) dX9_setPrice_4 (C_rangeX hx) rfl (fun v1 Y1 q1 => ?_) (fun E1 Y1 q1 => ?_)
  · exact q1.elim
  · (obtain ⟨rfl, rfl⟩ := q1; exact GX_out rfl ⟨by decide, by decide⟩ ⟨0, rfl, hcd, hq⟩)
theorem C_openTables {Γ : GTy} {Z : HS} {n : Nat} {F A : FT} {g : GN} (h : CI n Z F g A) : Tn Γ M_X9_openTables [.ref 800000] Z (rt (some (.int (nI (cnt (fun k => F 102 k = 0) 4)))) Z) := by
  refine Tn_of' rfl rfl rfl ?_
  show G Γ M_X9_openTables (rm M_X9_openTables) (Vn Γ M_X9_openTables (rt (some (.int (nI (cnt (fun k => F 102 k = 0) 4)))) Z)) (0, 0) 0 [some (.ref 800000), none, none, none, none, none] [] Z
  have h0 := h
  obtain ⟨hH, ⟨hPI, hPG, hZo⟩, ⟨hZh, hZd, hZw⟩, ⟨hZt, hZc, hZf⟩, ⟨hZr, hZs, hZl⟩, hZfr, hZbd⟩ := h0
  have loop : ∀ (n9 j : Nat) (v5 : Option Value), j + n9 = 4 → G Γ M_X9_openTables (rm M_X9_openTables) (Vn Γ M_X9_openTables (rt (some (.int (nI (cnt (fun k => F 102 k = 0) 4)))) Z)) (0, 0) 13 [some (.ref 800000), some (.int (nI (cnt (fun k => F 102 k = 0) j))), some (.ref 1800000), some (.int (nI 4)), some (.int (nI j)), v5] [] Z := by
    intro n9
    induction n9 with
    | zero =>
      intro j v5 hj
      obtain rfl : j = 4 := by omega
      refine G_iload (pc := 13) dX9_openTables_13 rfl ?_
      refine G_iload_n (pc := 15) dX9_openTables_15 rfl ?_
      refine G_icmp_geN (pc := 16) (tgt := 47) (by omega) (by omega) dX9_openTables_16 (by decide) (fun c16 => ?_) (fun c16 => ?_)
      · skip
        refine G_iload_n (pc := 47) dX9_openTables_47 rfl ?_
        refine G_iret (pc := 48) VZ.n dX9_openTables_48 rfl ⟨by decide, by decide⟩ ?_
        exact ⟨rfl, rfl⟩
      · omega
    | succ n9 ih =>
      intro j v5 hj
      have hj9 : j < 4 := by omega
      refine G_iload (pc := 13) dX9_openTables_13 rfl ?_
      refine G_iload_n (pc := 15) dX9_openTables_15 rfl ?_
      refine G_icmp_geN (pc := 16) (tgt := 47) (by omega) (by omega) dX9_openTables_16 (by decide) (fun c16 => ?_) (fun c16 => ?_)
      · omega
      · skip
        refine G_aload_n (pc := 19) dX9_openTables_19 rfl ?_
        refine G_iload (pc := 20) dX9_openTables_20 rfl ?_
        refine G_aaldS (pc := 22) (j := j) (sh_c0 hH) (by decide) rfl (Nat.lt_of_lt_of_eq hj9 (sh_n0 hH).symm) (by omega) (hH.2.2.1 j hj9).2 dX9_openTables_22 ?_
        refine G_astore (pc := 23) dX9_openTables_23 (by decide) ?_
        refine G_aload (pc := 25) dX9_openTables_25 rfl ?_
        refine G_ifnull_r (pc := 27) dX9_openTables_27 ?_
        refine G_aload (pc := 30) dX9_openTables_30 rfl ?_
        refine G_getIv (pc := 32) (v := b2 (F 102 j = 0)) (hZt j hj9).1 fl_X9_83 (hH.2.2.1 j hj9).1 rfl dX9_openTables_32 ?_
        refine G_if_eqB (pc := 35) (tgt := 41) dX9_openTables_35 (by decide) (fun c35 => ?_) (fun c35 => ?_)
        · skip
          refine G_iincN (pc := 41) dX9_openTables_41 rfl (by decide) ?_
          refine G_goto (pc := 44) (tgt := 13) dX9_openTables_44 (by decide) ?_
          have h9 := ih (j + 1) (some (.ref (700000 + j))) (by omega)
          first
            | (rw [cnt_f (p := fun k => F 102 k = 0) c35] at h9; exact h9)
            | (rw [cnt_t (p := fun k => F 102 k = 0) c35] at h9; exact h9)
        · skip
          refine G_iincN (pc := 38) dX9_openTables_38 rfl (by decide) ?_
          refine G_iincN (pc := 41) dX9_openTables_41 rfl (by decide) ?_
          refine G_goto (pc := 44) (tgt := 13) dX9_openTables_44 (by decide) ?_
          have h9 := ih (j + 1) (some (.ref (700000 + j))) (by omega)
          first
            | (rw [cnt_f (p := fun k => F 102 k = 0) c35] at h9; exact h9)
            | (rw [cnt_t (p := fun k => F 102 k = 0) c35] at h9; exact h9)
  refine G_iconst (pc := 0) (v := nI 0) dX9_openTables_0 (by first | rfl | decide) ?_
  refine G_istore_n (pc := 1) dX9_openTables_1 (by decide) ?_
  refine G_aload_n (pc := 2) dX9_openTables_2 rfl ?_
  refine G_getS (pc := 3) fl_X9_11 (sh_k hH) rfl (sh_r0 hH) dX9_openTables_3 ?_
  refine G_astore_n (pc := 6) dX9_openTables_6 (by decide) ?_
  refine G_aload_n (pc := 7) dX9_openTables_7 rfl ?_
  refine G_alen (pc := 8) (v := nI 4) (sh_c0 hH) (by decide) (congrArg nI (sh_n0 hH)) dX9_openTables_8 ?_
  refine G_istore_n (pc := 9) dX9_openTables_9 (by decide) ?_
  refine G_iconst (pc := 10) (v := nI 0) dX9_openTables_10 (by first | rfl | decide) ?_
  refine G_istore (pc := 11) dX9_openTables_11 (by decide) ?_
  exact loop 4 0 _ rfl
theorem K_mendN {Γ : GTy} {Z : HS} {n : Nat} {P : HS → FT → Prop} {F A : FT} {g : GN} (h : CI n Z F g A) {t : Nat} (ht : t < 4) (hc : ¬ F 102 t = 0) {F9 : FT} (hO : CI (n + 1) (sI Z 7 0 (700000 + t) (nI 1)) F9 g A) {F' : FT} {b : Int32} (hb : nI (cnt (fun k => F9 102 k = 0) 4) = b) (hcd : F' 25 0 = nI 0) (hq : Nx P Z (sI Z 7 0 (700000 + t) (nI 1)) F') : Tt Γ M_X9_mend [.ref 800000, .int (nI t)] Z (QVo P Z F' b) (QXo P Z F' [xIO, xIS]) := by
  refine Tt_of' rfl rfl rfl ?_
  show G Γ M_X9_mend (rm M_X9_mend) (Vt Γ M_X9_mend (QVo P Z F' b) (QXo P Z F' [xIO, xIS])) (0, 0) 0 [some (.ref 800000), some (.int (nI t)), none] [] Z
  have h0 := h
  obtain ⟨hH, ⟨hPI, hPG, hZo⟩, ⟨hZh, hZd, hZw⟩, ⟨hZt, hZc, hZf⟩, ⟨hZr, hZs, hZl⟩, hZfr, hZbd⟩ := h0
  refine G_aload_n (pc := 0) dX9_mend_0 rfl ?_
  refine G_iload_n (pc := 1) dX9_mend_1 rfl ?_
  refine K_Vn1r (pc := 2) (k' := (1, 6)) mok_X9_tableAt lk_X9_75 (sh_k hH) rfl rfl rfl (aok0 rfl) dX9_mend_2 (C_tableAtN hH ht) rfl ?_
  refine G_astore_n (pc := 5) dX9_mend_5 (by decide) ?_
  refine G_aload_n (pc := 6) dX9_mend_6 rfl ?_
  refine G_getIv (pc := 7) (v := b2 (F 102 t = 0)) (hZt t ht).1 fl_X9_83 (hH.2.2.1 t ht).1 rfl dX9_mend_7 ?_
  refine G_if_eqB (pc := 10) (tgt := 23) dX9_mend_10 (by decide) (fun c10 => ?_) (fun c10 => ?_)
  · skip
    refine G_aload_n (pc := 23) dX9_mend_23 rfl ?_
    refine G_iconst (pc := 24) (v := nI 1) dX9_mend_24 (by first | rfl | decide) ?_
    refine G_putZ (pc := 25) fl_X9_83 fw_7_0 (hH.2.2.1 t ht).1 rfl (Or.inr rfl) dX9_mend_25 ?_
    refine G_aload_n (pc := 28) dX9_mend_28 rfl ?_
    refine K_Vn0r (pc := 29) (k' := (1, 6)) mok_X9_openTables lk_X9_131 (sh_k hH) rfl rfl rfl (aok0 rfl) dX9_mend_29 (C_openTables hO) rfl ?_
    refine G_iret (pc := 32) VZ.x dX9_mend_32 rfl ⟨by decide, by decide⟩ ?_
    exact ⟨congrArg (fun z => some (Value.int z)) hb, hcd, hq⟩
  · exact absurd c10 hc
theorem K_mendX {Γ : GTy} {Z : HS} {n : Nat} {P : HS → FT → Prop} {F A : FT} {g : GN} (h : CI n Z F g A) {x : Int32} (hx : ¬ (nI 0 ≤ x ∧ x ≤ nI 3)) {F' : FT} {b : Int32} (hcd : F' 25 0 = nI 1) (hq : Nx P Z Z F') : Tt Γ M_X9_mend [.ref 800000, .int x] Z (QVo P Z F' b) (QXo P Z F' [xIO, xIS]) := by
  refine Tt_of' rfl rfl rfl ?_
  show G Γ M_X9_mend (rm M_X9_mend) (Vt Γ M_X9_mend (QVo P Z F' b) (QXo P Z F' [xIO, xIS])) (0, 0) 0 [some (.ref 800000), some (.int x), none] [] Z
  have h0 := h
  obtain ⟨hH, ⟨hPI, hPG, hZo⟩, ⟨hZh, hZd, hZw⟩, ⟨hZt, hZc, hZf⟩, ⟨hZr, hZs, hZl⟩, hZfr, hZbd⟩ := h0
  refine G_aload_n (pc := 0) dX9_mend_0 rfl ?_
  refine G_iload_n (pc := 1) dX9_mend_1 rfl ?_
  refine K_V1 (pc := 2) (k' := (1, 6)) mok_X9_tableAt lk_X9_75 (sh_k hH) rfl rfl rfl (aok0 rfl) dX9_mend_2 (C_tableAtX hH hx) rfl (fun v1 Y1 q1 => ?_) (fun E1 Y1 q1 => ?_)
  · exact q1.elim
  · (obtain ⟨rfl, rfl⟩ := q1; exact GX_out rfl ⟨by decide, by decide⟩ ⟨0, rfl, hcd, hq⟩)
theorem K_mendY {Γ : GTy} {Z : HS} {n : Nat} {P : HS → FT → Prop} {F A : FT} {g : GN} (h : CI n Z F g A) {t : Nat} (ht : t < 4) (hc : F 102 t = 0) {F' : FT} {b : Int32} (hcd : F' 25 0 = nI 2) (hq : Nx P Z Z F') : Tt Γ M_X9_mend [.ref 800000, .int (nI t)] Z (QVo P Z F' b) (QXo P Z F' [xIO, xIS]) := by
  refine Tt_of' rfl rfl rfl ?_
  show G Γ M_X9_mend (rm M_X9_mend) (Vt Γ M_X9_mend (QVo P Z F' b) (QXo P Z F' [xIO, xIS])) (0, 0) 0 [some (.ref 800000), some (.int (nI t)), none] [] Z
  have h0 := h
  obtain ⟨hH, ⟨hPI, hPG, hZo⟩, ⟨hZh, hZd, hZw⟩, ⟨hZt, hZc, hZf⟩, ⟨hZr, hZs, hZl⟩, hZfr, hZbd⟩ := h0
  refine G_aload_n (pc := 0) dX9_mend_0 rfl ?_
  refine G_iload_n (pc := 1) dX9_mend_1 rfl ?_
  refine K_Vn1r (pc := 2) (k' := (1, 6)) mok_X9_tableAt lk_X9_75 (sh_k hH) rfl rfl rfl (aok0 rfl) dX9_mend_2 (C_tableAtN hH ht) rfl ?_
  refine G_astore_n (pc := 5) dX9_mend_5 (by decide) ?_
  refine G_aload_n (pc := 6) dX9_mend_6 rfl ?_
  refine G_getIv (pc := 7) (v := b2 (F 102 t = 0)) (hZt t ht).1 fl_X9_83 (hH.2.2.1 t ht).1 rfl dX9_mend_7 ?_
  refine G_if_eqB (pc := 10) (tgt := 23) dX9_mend_10 (by decide) (fun c10 => ?_) (fun c10 => ?_)
  · exact absurd hc c10
  · skip
    refine G_throw (pc := 13)  tw_X9_129 rfl dX9_mend_13 dX9_mend_16 dX9_mend_17 dX9_mend_19 dX9_mend_22 ⟨by decide, Nat.le_of_ble_eq_true rfl, by decide, by decide⟩ ⟨by decide, by decide⟩ ?_
    exact ⟨1, rfl, hcd, hq⟩
theorem K_tipN {Γ : GTy} {Z : HS} {n : Nat} {P : HS → FT → Prop} {F A : FT} {g : GN} (h : CI n Z F g A) {u : Nat} (hu : u < 6) (hl : g 4 u = 0) {F' : FT} {b : Int32} (hb : F 108 u = b) (hcd : F' 25 0 = nI 0) (hq : Nx P Z (sI Z 1 0 (100000 + u) (nI 0)) F') : Tt Γ M_X9_tip [.ref 800000, .int (nI u)] Z (QVo P Z F' b) (QXo P Z F' [xIO, xIS]) := by
  refine Tt_of' rfl rfl rfl ?_
  show G Γ M_X9_tip (rm M_X9_tip) (Vt Γ M_X9_tip (QVo P Z F' b) (QXo P Z F' [xIO, xIS])) (0, 0) 0 [some (.ref 800000), some (.int (nI u)), none, none] [] Z
  have h0 := h
  obtain ⟨hH, ⟨hPI, hPG, hZo⟩, ⟨hZh, hZd, hZw⟩, ⟨hZt, hZc, hZf⟩, ⟨hZr, hZs, hZl⟩, hZfr, hZbd⟩ := h0
  refine G_aload_n (pc := 0) dX9_tip_0 rfl ?_
  refine G_iload_n (pc := 1) dX9_tip_1 rfl ?_
  refine K_Vn1r (pc := 2) (k' := (1, 6)) mok_X9_cueAt lk_X9_222 (sh_k hH) rfl rfl rfl (aok0 rfl) dX9_tip_2 (C_cueAtN hH hu) rfl ?_
  refine G_astore_n (pc := 5) dX9_tip_5 (by decide) ?_
  refine G_aload_n (pc := 6) dX9_tip_6 rfl ?_
  refine G_getN (pc := 7) fl_X9_225 (hH.2.2.2.1 u hu).1 rfl ((hZc u hu).2.1 hl) dX9_tip_7 ?_
  refine G_ifnull_n (pc := 10) (tgt := 23) dX9_tip_10 (by decide) ?_
  refine G_aload_n (pc := 23) dX9_tip_23 rfl ?_
  refine G_getIv (pc := 24) (v := F 108 u) (hZc u hu).1 fl_X9_231 (hH.2.2.2.1 u hu).1 rfl dX9_tip_24 ?_
  refine G_istore_n (pc := 27) dX9_tip_27 (by decide) ?_
  refine G_aload_n (pc := 28) dX9_tip_28 rfl ?_
  refine G_iconst (pc := 29) (v := nI 0) dX9_tip_29 (by first | rfl | decide) ?_
  refine G_putI (pc := 30) fl_X9_231 fw_1_0 (hH.2.2.2.1 u hu).1 rfl dX9_tip_30 ?_
  refine G_iload_n (pc := 33) dX9_tip_33 rfl ?_
  refine G_iret (pc := 34) VZ.x dX9_tip_34 rfl ⟨by decide, by decide⟩ ?_
  exact ⟨congrArg (fun z => some (Value.int z)) hb, hcd, hq⟩
theorem K_tipX {Γ : GTy} {Z : HS} {n : Nat} {P : HS → FT → Prop} {F A : FT} {g : GN} (h : CI n Z F g A) {x : Int32} (hx : ¬ (nI 0 ≤ x ∧ x ≤ nI 5)) {F' : FT} {b : Int32} (hcd : F' 25 0 = nI 1) (hq : Nx P Z Z F') : Tt Γ M_X9_tip [.ref 800000, .int x] Z (QVo P Z F' b) (QXo P Z F' [xIO, xIS]) := by
  refine Tt_of' rfl rfl rfl ?_
  show G Γ M_X9_tip (rm M_X9_tip) (Vt Γ M_X9_tip (QVo P Z F' b) (QXo P Z F' [xIO, xIS])) (0, 0) 0 [some (.ref 800000), some (.int x), none, none] [] Z
  have h0 := h
  obtain ⟨hH, ⟨hPI, hPG, hZo⟩, ⟨hZh, hZd, hZw⟩, ⟨hZt, hZc, hZf⟩, ⟨hZr, hZs, hZl⟩, hZfr, hZbd⟩ := h0
  refine G_aload_n (pc := 0) dX9_tip_0 rfl ?_
  refine G_iload_n (pc := 1) dX9_tip_1 rfl ?_
  refine K_V1 (pc := 2) (k' := (1, 6)) mok_X9_cueAt lk_X9_222 (sh_k hH) rfl rfl rfl (aok0 rfl) dX9_tip_2 (C_cueAtX hH hx) rfl (fun v1 Y1 q1 => ?_) (fun E1 Y1 q1 => ?_)
  · exact q1.elim
  · (obtain ⟨rfl, rfl⟩ := q1; exact GX_out rfl ⟨by decide, by decide⟩ ⟨0, rfl, hcd, hq⟩)
theorem K_tipY {Γ : GTy} {Z : HS} {n : Nat} {P : HS → FT → Prop} {F A : FT} {g : GN} (h : CI n Z F g A) {u : Nat} (hu : u < 6) (hl : g 4 u ≠ 0) {F' : FT} {b : Int32} (hcd : F' 25 0 = nI 2) (hq : Nx P Z Z F') : Tt Γ M_X9_tip [.ref 800000, .int (nI u)] Z (QVo P Z F' b) (QXo P Z F' [xIO, xIS]) := by
  refine Tt_of' rfl rfl rfl ?_
  show G Γ M_X9_tip (rm M_X9_tip) (Vt Γ M_X9_tip (QVo P Z F' b) (QXo P Z F' [xIO, xIS])) (0, 0) 0 [some (.ref 800000), some (.int (nI u)), none, none] [] Z
  have h0 := h
  obtain ⟨hH, ⟨hPI, hPG, hZo⟩, ⟨hZh, hZd, hZw⟩, ⟨hZt, hZc, hZf⟩, ⟨hZr, hZs, hZl⟩, hZfr, hZbd⟩ := h0
  refine G_aload_n (pc := 0) dX9_tip_0 rfl ?_
  refine G_iload_n (pc := 1) dX9_tip_1 rfl ?_
  refine K_Vn1r (pc := 2) (k' := (1, 6)) mok_X9_cueAt lk_X9_222 (sh_k hH) rfl rfl rfl (aok0 rfl) dX9_tip_2 (C_cueAtN hH hu) rfl ?_
  refine G_astore_n (pc := 5) dX9_tip_5 (by decide) ?_
  refine G_aload_n (pc := 6) dX9_tip_6 rfl ?_
  refine G_getS (pc := 7) fl_X9_225 (hH.2.2.2.1 u hu).1 rfl ((hZc u hu).2.2 hl).1 dX9_tip_7 ?_
  refine G_ifnull_r (pc := 10) dX9_tip_10 ?_
  refine G_throw (pc := 13)  tw_X9_254 rfl dX9_tip_13 dX9_tip_16 dX9_tip_17 dX9_tip_19 dX9_tip_22 ⟨by decide, Nat.le_of_ble_eq_true rfl, by decide, by decide⟩ ⟨by decide, by decide⟩ ?_
  exact ⟨1, rfl, hcd, hq⟩
