-- ===== resume =====
theorem aokL (l : List Nat) {l2 : List Nat} {Z : HS} (h : ∀ r, r ∈ l2 → r ∈ l) (h2 : ∀ r, r ∈ l → xK Z r ≠ 99) : ∀ r, r ∈ l2 → xK Z r ≠ 99 := fun r hr => h2 r (h r hr)
theorem K_resumeN {Γ : GTy} {Z : HS} {n : Nat} {P : HS → FT → Prop} {F A : FT} {g : GN} (h : CI n Z F g A) {f t : Nat} (hf : f < g 16 0) (ht : t < 4) (hz : g 23 f = 0) (hw : F 117 f = -1) (ho : F 102 t = 0) (hg : g 1 t = 0) (hp : (¬ F 112 f = 0 ∨ (F 103 t = nI (g 20 f + 1) ∨ F 103 t = nI (g 21 f + 1)))) {L : HS} {v : Int32} (hT : Tn Γ M_X9_putFrameOn [.ref 800000, .ref (200000 + f), .ref (700000 + t), .int (nI t)] Z (rt none L)) (hk2 : xK L (200000 + f) = 2) (hD : Tn Γ M_X2_player [.ref (200000 + f)] L (rt (some (.int v)) L)) {F' : FT} {b : Int32} (hb : v = b) (hcd : F' 25 0 = nI 0) (hq : Nx P Z L F') : Tt Γ M_X9_resume [.ref 800000, .int (nI f), .int (nI t)] Z (QVo P Z F' b) (QXo P Z F' [xIO, xIS]) := by
  refine Tt_of' rfl rfl rfl ?_
  show G Γ M_X9_resume (rm M_X9_resume) (Vt Γ M_X9_resume (QVo P Z F' b) (QXo P Z F' [xIO, xIS])) (0, 0) 0 [some (.ref 800000), some (.int (nI f)), some (.int (nI t)), none, none] [] Z
  have h0 := h
  obtain ⟨hH, ⟨hPI, hPG, hZo⟩, ⟨hZh, hZd, hZw⟩, ⟨hZt, hZc, hZf⟩, ⟨hZr, hZs, hZl⟩, hZfr, hZbd⟩ := h0
  refine G_aload_n (pc := 0) dX9_resume_0 rfl ?_
  refine G_iload_n (pc := 1) dX9_resume_1 rfl ?_
  refine K_Vn1r (pc := 2) (k' := (1, 6)) mok_X9_frameAt lk_X9_164 (sh_k hH) rfl rfl rfl (aok0 rfl) dX9_resume_2 (C_frameAtN hH hf hZh.1.1 hPI.1.2.2 (hZf f hf).2.1 (hZf f hf).1.1) rfl ?_
  refine G_astore_n (pc := 5) dX9_resume_5 (by decide) ?_
  refine G_aload_n (pc := 6) dX9_resume_6 rfl ?_
  refine G_iload_n (pc := 7) dX9_resume_7 rfl ?_
  refine K_Vn1r (pc := 8) (k' := (2, 12)) mok_X9_tableAt lk_X9_75 (sh_k hH) rfl rfl rfl (aok0 rfl) dX9_resume_8 (C_tableAtN hH ht) rfl ?_
  refine G_astore (pc := 11) dX9_resume_11 (by decide) ?_
  refine G_aload_n (pc := 13) dX9_resume_13 rfl ?_
  refine K_Vn0r (pc := 14) (k' := (2, 12)) mok_X2_isWaiting lk_X9_168 (hZf f hf).1.1 rfl rfl rfl (aok0 rfl) dX9_resume_14 (D_isWaitN h hf hz) rfl ?_
  refine G_if_neB (pc := 17) (tgt := 30) dX9_resume_17 (by decide) (fun c17 => ?_) (fun c17 => ?_)
  · skip
    refine G_aload (pc := 30) dX9_resume_30 rfl ?_
    refine G_aload_n (pc := 32) dX9_resume_32 rfl ?_
    refine G_getIv (pc := 33) (c := 2) (i := 3) (v := F 112 f) (hZf f hf).2.2.1.2.2.2 fl_X9_173 (hZf f hf).1.1 rfl dX9_resume_33 ?_
    refine G_aload_n (pc := 36) dX9_resume_36 rfl ?_
    refine G_getIv (pc := 37) (c := 2) (i := 1) (v := nI (g 20 f)) ((hZf f hf).2.2.1.2.1.trans (hPI.2.2.2.2.1 f hf).1.1.1) fl_X9_176 (hZf f hf).1.1 rfl dX9_resume_37 ?_
    refine G_aload_n (pc := 40) dX9_resume_40 rfl ?_
    refine G_getIv (pc := 41) (c := 2) (i := 2) (v := nI (g 21 f)) ((hZf f hf).2.2.1.2.2.1.trans (hPI.2.2.2.2.1 f hf).1.2.1.1) fl_X9_179 (hZf f hf).1.1 rfl dX9_resume_41 ?_
    refine K_Sn4v (pc := 44) (k' := (4, 24)) mok_X9_requirePlace lk_X9_150 rfl (aok0 rfl) dX9_resume_44 (C_placeN h ht (hPI.2.2.2.2.1 f hf).1.1.2 (hPI.2.2.2.2.1 f hf).1.2.1.2 ho hg hp) rfl ?_
    refine G_aload_n (pc := 47) dX9_resume_47 rfl ?_
    refine G_aload_n (pc := 48) dX9_resume_48 rfl ?_
    refine G_aload (pc := 49) dX9_resume_49 rfl ?_
    refine G_iload_n (pc := 51) dX9_resume_51 rfl ?_
    refine K_Vn3v (pc := 52) (k' := (5, 27)) mok_X9_putFrameOn lk_X9_157 (sh_k hH) rfl rfl rfl (fun _ => ⟨rfl, aokL [800000, 200000 + f, 700000 + t] (by intro r hr; exact hr) (by intro r hr; simp only [List.mem_cons, List.not_mem_nil, or_false] at hr; rcases hr with rfl | rfl | rfl; exact (by rw [sh_k hH]; decide); exact (by rw [(hZf f hf).1.1]; decide); exact (by rw [(hH.2.2.1 t ht).1]; decide)), fun r hr => absurd hr List.not_mem_nil⟩) dX9_resume_52 (hT) rfl ?_
    refine G_aload_n (pc := 55) dX9_resume_55 rfl ?_
    refine K_Vn0r (pc := 56) (k' := (5, 27)) mok_X2_player lk_X9_182 hk2 rfl rfl rfl (aok0 rfl) dX9_resume_56 (hD) rfl ?_
    refine G_iret (pc := 59) VZ.x dX9_resume_59 rfl ⟨by decide, by decide⟩ ?_
    exact ⟨congrArg (fun z => some (Value.int z)) hb, hcd, hq⟩
  · exact absurd hw c17
theorem K_resumeX {Γ : GTy} {Z : HS} {n : Nat} {P : HS → FT → Prop} {F A : FT} {g : GN} (h : CI n Z F g A) {x y : Int32} (hx : ¬ (nI 0 ≤ x ∧ x ≤ nI (g 16 0) - nI 1)) {F' : FT} {b : Int32} (hcd : F' 25 0 = nI 1) (hq : Nx P Z Z F') : Tt Γ M_X9_resume [.ref 800000, .int x, .int y] Z (QVo P Z F' b) (QXo P Z F' [xIO, xIS]) := by
  refine Tt_of' rfl rfl rfl ?_
  show G Γ M_X9_resume (rm M_X9_resume) (Vt Γ M_X9_resume (QVo P Z F' b) (QXo P Z F' [xIO, xIS])) (0, 0) 0 [some (.ref 800000), some (.int x), some (.int y), none, none] [] Z
  have h0 := h
  obtain ⟨hH, ⟨hPI, hPG, hZo⟩, ⟨hZh, hZd, hZw⟩, ⟨hZt, hZc, hZf⟩, ⟨hZr, hZs, hZl⟩, hZfr, hZbd⟩ := h0
  refine G_aload_n (pc := 0) dX9_resume_0 rfl ?_
  refine G_iload_n (pc := 1) dX9_resume_1 rfl ?_
  refine K_V1 (pc := 2) (k' := (1, 6)) mok_X9_frameAt lk_X9_164 (sh_k hH) rfl rfl rfl (aok0 rfl) dX9_resume_2 (C_frameAtX hH hZh.1.1 hPI.1.2.2 hx) rfl (fun v1 Y1 q1 => ?_) (fun E1 Y1 q1 => ?_)
  · exact q1.elim
  · (obtain ⟨rfl, rfl⟩ := q1; exact GX_out rfl ⟨by decide, by decide⟩ ⟨0, rfl, hcd, hq⟩)
theorem K_resumeY {Γ : GTy} {Z : HS} {n : Nat} {P : HS → FT → Prop} {F A : FT} {g : GN} (h : CI n Z F g A) {f : Nat} {y : Int32} (hf : f < g 16 0) (hy : ¬ (nI 0 ≤ y ∧ y ≤ nI 3)) {F' : FT} {b : Int32} (hcd : F' 25 0 = nI 1) (hq : Nx P Z Z F') : Tt Γ M_X9_resume [.ref 800000, .int (nI f), .int y] Z (QVo P Z F' b) (QXo P Z F' [xIO, xIS]) := by
  refine Tt_of' rfl rfl rfl ?_
  show G Γ M_X9_resume (rm M_X9_resume) (Vt Γ M_X9_resume (QVo P Z F' b) (QXo P Z F' [xIO, xIS])) (0, 0) 0 [some (.ref 800000), some (.int (nI f)), some (.int y), none, none] [] Z
  have h0 := h
  obtain ⟨hH, ⟨hPI, hPG, hZo⟩, ⟨hZh, hZd, hZw⟩, ⟨hZt, hZc, hZf⟩, ⟨hZr, hZs, hZl⟩, hZfr, hZbd⟩ := h0
  refine G_aload_n (pc := 0) dX9_resume_0 rfl ?_
  refine G_iload_n (pc := 1) dX9_resume_1 rfl ?_
  refine K_Vn1r (pc := 2) (k' := (1, 6)) mok_X9_frameAt lk_X9_164 (sh_k hH) rfl rfl rfl (aok0 rfl) dX9_resume_2 (C_frameAtN hH hf hZh.1.1 hPI.1.2.2 (hZf f hf).2.1 (hZf f hf).1.1) rfl ?_
  refine G_astore_n (pc := 5) dX9_resume_5 (by decide) ?_
  refine G_aload_n (pc := 6) dX9_resume_6 rfl ?_
  refine G_iload_n (pc := 7) dX9_resume_7 rfl ?_
  refine K_V1 (pc := 8) (k' := (2, 12)) mok_X9_tableAt lk_X9_75 (sh_k hH) rfl rfl rfl (aok0 rfl) dX9_resume_8 (C_tableAtX hH hy) rfl (fun v1 Y1 q1 => ?_) (fun E1 Y1 q1 => ?_)
  · exact q1.elim
  · (obtain ⟨rfl, rfl⟩ := q1; exact GX_out rfl ⟨by decide, by decide⟩ ⟨0, rfl, hcd, hq⟩)
theorem K_resumeU {Γ : GTy} {Z : HS} {n : Nat} {P : HS → FT → Prop} {F A : FT} {g : GN} (h : CI n Z F g A) {f t : Nat} (hf : f < g 16 0) (ht : t < 4) (hz : g 23 f = 0) (hw : ¬ F 117 f = -1) {F' : FT} {b : Int32} (hcd : F' 25 0 = nI 2) (hq : Nx P Z Z F') : Tt Γ M_X9_resume [.ref 800000, .int (nI f), .int (nI t)] Z (QVo P Z F' b) (QXo P Z F' [xIO, xIS]) := by
  refine Tt_of' rfl rfl rfl ?_
  show G Γ M_X9_resume (rm M_X9_resume) (Vt Γ M_X9_resume (QVo P Z F' b) (QXo P Z F' [xIO, xIS])) (0, 0) 0 [some (.ref 800000), some (.int (nI f)), some (.int (nI t)), none, none] [] Z
  have h0 := h
  obtain ⟨hH, ⟨hPI, hPG, hZo⟩, ⟨hZh, hZd, hZw⟩, ⟨hZt, hZc, hZf⟩, ⟨hZr, hZs, hZl⟩, hZfr, hZbd⟩ := h0
  refine G_aload_n (pc := 0) dX9_resume_0 rfl ?_
  refine G_iload_n (pc := 1) dX9_resume_1 rfl ?_
  refine K_Vn1r (pc := 2) (k' := (1, 6)) mok_X9_frameAt lk_X9_164 (sh_k hH) rfl rfl rfl (aok0 rfl) dX9_resume_2 (C_frameAtN hH hf hZh.1.1 hPI.1.2.2 (hZf f hf).2.1 (hZf f hf).1.1) rfl ?_
  refine G_astore_n (pc := 5) dX9_resume_5 (by decide) ?_
  refine G_aload_n (pc := 6) dX9_resume_6 rfl ?_
  refine G_iload_n (pc := 7) dX9_resume_7 rfl ?_
  refine K_Vn1r (pc := 8) (k' := (2, 12)) mok_X9_tableAt lk_X9_75 (sh_k hH) rfl rfl rfl (aok0 rfl) dX9_resume_8 (C_tableAtN hH ht) rfl ?_
  refine G_astore (pc := 11) dX9_resume_11 (by decide) ?_
  refine G_aload_n (pc := 13) dX9_resume_13 rfl ?_
  refine K_Vn0r (pc := 14) (k' := (2, 12)) mok_X2_isWaiting lk_X9_168 (hZf f hf).1.1 rfl rfl rfl (aok0 rfl) dX9_resume_14 (D_isWaitN h hf hz) rfl ?_
  refine G_if_neB (pc := 17) (tgt := 30) dX9_resume_17 (by decide) (fun c17 => ?_) (fun c17 => ?_)
  · exact absurd c17 hw
  · skip
    refine G_throw (pc := 20)  tw_X9_171 rfl dX9_resume_20 dX9_resume_23 dX9_resume_24 dX9_resume_26 dX9_resume_29 ⟨by decide, Nat.le_of_ble_eq_true rfl, by decide, by decide⟩ ⟨by decide, by decide⟩ ?_
    exact ⟨1, rfl, hcd, hq⟩
theorem K_resumeV {Γ : GTy} {Z : HS} {n : Nat} {P : HS → FT → Prop} {F A : FT} {g : GN} (h : CI n Z F g A) {f t : Nat} (hf : f < g 16 0) (ht : t < 4) (hz : g 23 f ≠ 0) {F' : FT} {b : Int32} (hcd : F' 25 0 = nI 2) (hq : Nx P Z Z F') : Tt Γ M_X9_resume [.ref 800000, .int (nI f), .int (nI t)] Z (QVo P Z F' b) (QXo P Z F' [xIO, xIS]) := by
  refine Tt_of' rfl rfl rfl ?_
  show G Γ M_X9_resume (rm M_X9_resume) (Vt Γ M_X9_resume (QVo P Z F' b) (QXo P Z F' [xIO, xIS])) (0, 0) 0 [some (.ref 800000), some (.int (nI f)), some (.int (nI t)), none, none] [] Z
  have h0 := h
  obtain ⟨hH, ⟨hPI, hPG, hZo⟩, ⟨hZh, hZd, hZw⟩, ⟨hZt, hZc, hZf⟩, ⟨hZr, hZs, hZl⟩, hZfr, hZbd⟩ := h0
  refine G_aload_n (pc := 0) dX9_resume_0 rfl ?_
  refine G_iload_n (pc := 1) dX9_resume_1 rfl ?_
  refine K_Vn1r (pc := 2) (k' := (1, 6)) mok_X9_frameAt lk_X9_164 (sh_k hH) rfl rfl rfl (aok0 rfl) dX9_resume_2 (C_frameAtN hH hf hZh.1.1 hPI.1.2.2 (hZf f hf).2.1 (hZf f hf).1.1) rfl ?_
  refine G_astore_n (pc := 5) dX9_resume_5 (by decide) ?_
  refine G_aload_n (pc := 6) dX9_resume_6 rfl ?_
  refine G_iload_n (pc := 7) dX9_resume_7 rfl ?_
  refine K_Vn1r (pc := 8) (k' := (2, 12)) mok_X9_tableAt lk_X9_75 (sh_k hH) rfl rfl rfl (aok0 rfl) dX9_resume_8 (C_tableAtN hH ht) rfl ?_
  refine G_astore (pc := 11) dX9_resume_11 (by decide) ?_
  refine G_aload_n (pc := 13) dX9_resume_13 rfl ?_
  refine K_Vn0r (pc := 14) (k' := (2, 12)) mok_X2_isWaiting lk_X9_168 (hZf f hf).1.1 rfl rfl rfl (aok0 rfl) dX9_resume_14 (D_isWaitS h hf hz) rfl ?_
  refine G_if_neN (pc := 17) (tgt := 30) (by omega) dX9_resume_17 (by decide) (fun h => absurd h (by decide)) (fun _ => ?_)
  refine G_throw (pc := 20)  tw_X9_171 rfl dX9_resume_20 dX9_resume_23 dX9_resume_24 dX9_resume_26 dX9_resume_29 ⟨by decide, Nat.le_of_ble_eq_true rfl, by decide, by decide⟩ ⟨by decide, by decide⟩ ?_
  exact ⟨1, rfl, hcd, hq⟩
theorem K_resumeW {Γ : GTy} {Z : HS} {n : Nat} {P : HS → FT → Prop} {F A : FT} {g : GN} (h : CI n Z F g A) {f t : Nat} (hf : f < g 16 0) (ht : t < 4) (hz : g 23 f = 0) (hw : F 117 f = -1) (hx : ¬ (F 102 t = 0 ∧ g 1 t = 0 ∧ (¬ F 112 f = 0 ∨ (F 103 t = nI (g 20 f + 1) ∨ F 103 t = nI (g 21 f + 1))))) {F' : FT} {b : Int32} (hcd : F' 25 0 = nI 2) (hq : Nx P Z Z F') : Tt Γ M_X9_resume [.ref 800000, .int (nI f), .int (nI t)] Z (QVo P Z F' b) (QXo P Z F' [xIO, xIS]) := by
  refine Tt_of' rfl rfl rfl ?_
  show G Γ M_X9_resume (rm M_X9_resume) (Vt Γ M_X9_resume (QVo P Z F' b) (QXo P Z F' [xIO, xIS])) (0, 0) 0 [some (.ref 800000), some (.int (nI f)), some (.int (nI t)), none, none] [] Z
  have h0 := h
  obtain ⟨hH, ⟨hPI, hPG, hZo⟩, ⟨hZh, hZd, hZw⟩, ⟨hZt, hZc, hZf⟩, ⟨hZr, hZs, hZl⟩, hZfr, hZbd⟩ := h0
  refine G_aload_n (pc := 0) dX9_resume_0 rfl ?_
  refine G_iload_n (pc := 1) dX9_resume_1 rfl ?_
  refine K_Vn1r (pc := 2) (k' := (1, 6)) mok_X9_frameAt lk_X9_164 (sh_k hH) rfl rfl rfl (aok0 rfl) dX9_resume_2 (C_frameAtN hH hf hZh.1.1 hPI.1.2.2 (hZf f hf).2.1 (hZf f hf).1.1) rfl ?_
  refine G_astore_n (pc := 5) dX9_resume_5 (by decide) ?_
  refine G_aload_n (pc := 6) dX9_resume_6 rfl ?_
  refine G_iload_n (pc := 7) dX9_resume_7 rfl ?_
  refine K_Vn1r (pc := 8) (k' := (2, 12)) mok_X9_tableAt lk_X9_75 (sh_k hH) rfl rfl rfl (aok0 rfl) dX9_resume_8 (C_tableAtN hH ht) rfl ?_
  refine G_astore (pc := 11) dX9_resume_11 (by decide) ?_
  refine G_aload_n (pc := 13) dX9_resume_13 rfl ?_
  refine K_Vn0r (pc := 14) (k' := (2, 12)) mok_X2_isWaiting lk_X9_168 (hZf f hf).1.1 rfl rfl rfl (aok0 rfl) dX9_resume_14 (D_isWaitN h hf hz) rfl ?_
  refine G_if_neB (pc := 17) (tgt := 30) dX9_resume_17 (by decide) (fun c17 => ?_) (fun c17 => ?_)
  · skip
    refine G_aload (pc := 30) dX9_resume_30 rfl ?_
    refine G_aload_n (pc := 32) dX9_resume_32 rfl ?_
    refine G_getIv (pc := 33) (c := 2) (i := 3) (v := F 112 f) (hZf f hf).2.2.1.2.2.2 fl_X9_173 (hZf f hf).1.1 rfl dX9_resume_33 ?_
    refine G_aload_n (pc := 36) dX9_resume_36 rfl ?_
    refine G_getIv (pc := 37) (c := 2) (i := 1) (v := nI (g 20 f)) ((hZf f hf).2.2.1.2.1.trans (hPI.2.2.2.2.1 f hf).1.1.1) fl_X9_176 (hZf f hf).1.1 rfl dX9_resume_37 ?_
    refine G_aload_n (pc := 40) dX9_resume_40 rfl ?_
    refine G_getIv (pc := 41) (c := 2) (i := 2) (v := nI (g 21 f)) ((hZf f hf).2.2.1.2.2.1.trans (hPI.2.2.2.2.1 f hf).1.2.1.1) fl_X9_179 (hZf f hf).1.1 rfl dX9_resume_41 ?_
    refine K_S4 (pc := 44) (k' := (4, 24)) mok_X9_requirePlace lk_X9_150 rfl (aok0 rfl) dX9_resume_44 (C_placeX h ht (hPI.2.2.2.2.1 f hf).1.1.2 (hPI.2.2.2.2.1 f hf).1.2.1.2 hx) rfl (fun v1 Y1 q1 => ?_) (fun E1 Y1 q1 => ?_)
    · exact q1.elim
    · (obtain ⟨rfl, rfl⟩ := q1; exact GX_out rfl ⟨by decide, by decide⟩ ⟨1, rfl, hcd, hq⟩)
  · exact absurd hw c17
