-- ===== owesAnew; contacts =====
theorem K_owesAnewN {Γ : GTy} {Z : HS} {n : Nat} {P : HS → FT → Prop} {F A : FT} {g : GN} (h : CI n Z F g A) {c : Nat} (hc : c < 8) {F' : FT} {b : Int32} (hb : owe F c = b) (hcd : F' 25 0 = nI 0) (hq : Nx P Z Z F') : Tt Γ M_X9_owesAnew [.ref 800000, .int (nI c)] Z (QVo P Z F' b) (QXo P Z F' [xIO]) := by
  refine Tt_of' rfl rfl rfl ?_
  show G Γ M_X9_owesAnew (rm M_X9_owesAnew) (Vt Γ M_X9_owesAnew (QVo P Z F' b) (QXo P Z F' [xIO])) (0, 0) 0 [some (.ref 800000), some (.int (nI c))] [] Z
  have h0 := h
  obtain ⟨hH, ⟨hPI, hPG, hZo⟩, ⟨hZh, hZd, hZw⟩, ⟨hZt, hZc, hZf⟩, ⟨hZr, hZs, hZl⟩, hZfr, hZbd⟩ := h0
  refine G_iload_n (pc := 0) dX9_owesAnew_0 rfl ?_
  refine K_Sn1v (pc := 1) (k' := (1, 6)) mok_X9_requireCustomer lk_X9_79 rfl (aok0 rfl) dX9_owesAnew_1 (C_custN hc) rfl ?_
  refine G_aload_n (pc := 4) dX9_owesAnew_4 rfl ?_
  refine G_iload_n (pc := 5) dX9_owesAnew_5 rfl ?_
  refine K_Vn1r (pc := 6) (k' := (1, 6)) mok_X9_billsAnew lk_X9_261 (sh_k hH) rfl rfl rfl (aok0 rfl) dX9_owesAnew_6 (C_billsAnew h hc) rfl ?_
  refine G_aload_n (pc := 9) dX9_owesAnew_9 rfl ?_
  refine G_iload_n (pc := 10) dX9_owesAnew_10 rfl ?_
  refine K_Vn1r (pc := 11) (k' := (1, 6)) mok_X9_depositsAnew lk_X9_265 (sh_k hH) rfl rfl rfl (aok0 rfl) dX9_owesAnew_11 (C_depositsAnew h hc) rfl ?_
  refine G_iadd (pc := 14) dX9_owesAnew_14 ?_
  rw [hZo c hc]
  refine G_iret (pc := 15) VZ.x dX9_owesAnew_15 rfl ⟨by decide, by decide⟩ ?_
  exact ⟨congrArg (fun z => some (Value.int z)) hb, hcd, hq⟩
theorem K_owesAnewX {Γ : GTy} {Z : HS} {n : Nat} {P : HS → FT → Prop} {F A : FT} {g : GN} (h : CI n Z F g A) {x : Int32} (hx : ¬ (nI 0 ≤ x ∧ x ≤ nI 7)) {F' : FT} {b : Int32} (hcd : F' 25 0 = nI 1) (hq : Nx P Z Z F') : Tt Γ M_X9_owesAnew [.ref 800000, .int x] Z (QVo P Z F' b) (QXo P Z F' [xIO]) := by
  refine Tt_of' rfl rfl rfl ?_
  show G Γ M_X9_owesAnew (rm M_X9_owesAnew) (Vt Γ M_X9_owesAnew (QVo P Z F' b) (QXo P Z F' [xIO])) (0, 0) 0 [some (.ref 800000), some (.int x)] [] Z
  have h0 := h
  obtain ⟨hH, ⟨hPI, hPG, hZo⟩, ⟨hZh, hZd, hZw⟩, ⟨hZt, hZc, hZf⟩, ⟨hZr, hZs, hZl⟩, hZfr, hZbd⟩ := h0
  refine G_iload_n (pc := 0) dX9_owesAnew_0 rfl ?_
  refine K_S1 (pc := 1) (k' := (1, 6)) mok_X9_requireCustomer lk_X9_79 rfl (aok0 rfl) dX9_owesAnew_1 (C_custX hx) rfl (fun v1 Y1 q1 => ?_) (fun E1 Y1 q1 => ?_)
  · exact q1.elim
  · (obtain ⟨rfl, rfl⟩ := q1; exact GX_out rfl ⟨by decide, by decide⟩ ⟨0, rfl, hcd, hq⟩)
theorem run_Z0 {Γ : GTy} (hG : GS Γ) {n : Nat} {Z : HS} {F A : FT} {g : GN} (h : CI n Z F g A) {F2 : FT} (hF : FQ F F2) {f d : Nat} {z : Int32} (hf : f < g 16 0) (d8 : d < 8) : ∃ A', RB 0 A' (mShot F2 f d z) ∧ JV (mShot F2 f d z) ∧ Tn Γ M_X6_run [.ref 10, .ref (1200000 + f), .int (nI d), .int z] Z (rt none (wB 0 10 1000010 Z A')) := by
  obtain ⟨hH, ⟨hPI, hPG, hZo⟩, ⟨hZh, hZd, hZw⟩, ⟨hZt, hZc, hZf⟩, hr⟩ := h
  have h1 := hZf f hf
  have h2 := hF.frP (hPI.2.2.2.2.1 f hf)
  have f20 := hPI.1.2.2
  obtain ⟨A', a1, a2, a3⟩ := run_ok0 (Γ := Γ) (z := z) hH.2.1.1 (rB 0 10 1000010 Z) hG h1.1.2.2.1 h1.1.2.2.2 (Or.inr (by omega)) (fun j hj => (h1.2.2.2.1.2 j hj).trans (hF 118 _ (by decide) (by decide)).symm) h2.2.1.1 h2.2.1.2.1 h2.2.1.2.2 d8
  rw [wB_self] at a3
  exact ⟨A', a1, a2, a3⟩
theorem K_cOf0N {Γ : GTy} {Z : HS} {n : Nat} {P : HS → FT → Prop} {F A : FT} {g : GN} (h : CI n Z F g A) {f d : Nat} {z : Int32} (hf : f < g 16 0) (d8 : d < 8) (hz : nI 1 ≤ z ∧ z ≤ nI 40) {A' : FT} {v : Int32} (hT : Tn Γ M_X6_run [.ref 10, .ref (1200000 + f), .int (nI d), .int z] Z (rt none (wB 0 10 1000010 Z A'))) (hv : A' 23 0 = v) {F' : FT} {b : Int32} (hb : v = b) (hcd : F' 25 0 = nI 0) (hq : Nx P Z (wB 0 10 1000010 Z A') F') : Tt Γ M_X9_contactsOf [.ref 800000, .ref 10, .int (nI f), .int (nI d), .int z] Z (QVo P Z F' b) (QXo P Z F' [xIO, xIA]) := by
  refine Tt_of' rfl rfl rfl ?_
  show G Γ M_X9_contactsOf (rm M_X9_contactsOf) (Vt Γ M_X9_contactsOf (QVo P Z F' b) (QXo P Z F' [xIO, xIA])) (0, 0) 0 [some (.ref 800000), some (.ref 10), some (.int (nI f)), some (.int (nI d)), some (.int z), none] [] Z
  have h0 := h
  obtain ⟨hH, ⟨hPI, hPG, hZo⟩, ⟨hZh, hZd, hZw⟩, ⟨hZt, hZc, hZf⟩, ⟨hZr, hZs, hZl⟩, hZfr, hZbd⟩ := h0
  refine G_aload_n (pc := 0) dX9_contactsOf_0 rfl ?_
  refine G_iload_n (pc := 1) dX9_contactsOf_1 rfl ?_
  refine K_Vn1r (pc := 2) (k' := (1, 6)) mok_X9_frameAt lk_X9_164 (sh_k hH) rfl rfl rfl (aok0 rfl) dX9_contactsOf_2 (C_frameAtN hH hf hZh.1.1 hPI.1.2.2 (hZf f hf).2.1 (hZf f hf).1.1) rfl ?_
  refine G_astore (pc := 5) dX9_contactsOf_5 (by decide) ?_
  refine G_iload_n (pc := 7) dX9_contactsOf_7 rfl ?_
  refine G_iconst (pc := 8) (v := nI 0) dX9_contactsOf_8 (by first | rfl | decide) ?_
  refine G_bipush (pc := 9) (v := nI 7) dX9_contactsOf_9 (by first | rfl | decide) ?_
  refine K_Sn3v (pc := 11) (k' := (2, 12)) mok_X9_requireRange lk_X9_71 rfl (aok0 rfl) dX9_contactsOf_11 (C_rangeN (inN (by omega) (by decide))) rfl ?_
  refine G_iload (pc := 14) dX9_contactsOf_14 rfl ?_
  refine G_iconst (pc := 16) (v := nI 1) dX9_contactsOf_16 (by first | rfl | decide) ?_
  refine G_bipush (pc := 17) (v := nI 40) dX9_contactsOf_17 (by first | rfl | decide) ?_
  refine K_Sn3v (pc := 19) (k' := (3, 18)) mok_X9_requireRange lk_X9_71 rfl (aok0 rfl) dX9_contactsOf_19 (C_rangeN hz) rfl ?_
  refine G_aload_n (pc := 22) dX9_contactsOf_22 rfl ?_
  refine G_aload (pc := 23) dX9_contactsOf_23 rfl ?_
  refine G_getS (pc := 25) fl_X9_195 (hZf f hf).1.1 rfl (hZf f hf).1.2.1 dX9_contactsOf_25 ?_
  refine G_iload_n (pc := 28) dX9_contactsOf_28 rfl ?_
  refine G_iload (pc := 29) dX9_contactsOf_29 rfl ?_
  refine K_U3v (pc := 31) (cb := 0) (k' := (3, 18)) mok_X6_run lk_X9_202_0 rfl (sh_c8 hH) rfl rfl (aok0 rfl) dX9_contactsOf_31 (hT) rfl ?_
  refine G_aload_n (pc := 34) dX9_contactsOf_34 rfl ?_
  refine G_getIv (pc := 35) (v := v) ((wB_I (Or.inl rfl)).trans hv) fl_X9_353_0 (sh_c8 hH) rfl dX9_contactsOf_35 ?_
  refine G_iret (pc := 38) VZ.x dX9_contactsOf_38 rfl ⟨by decide, by decide⟩ ?_
  exact ⟨congrArg (fun z => some (Value.int z)) hb, hcd, hq⟩
theorem K_cOf0X {Γ : GTy} {Z : HS} {n : Nat} {P : HS → FT → Prop} {F A : FT} {g : GN} (h : CI n Z F g A) {x y z : Int32} (hx : ¬ (nI 0 ≤ x ∧ x ≤ nI (g 16 0) - nI 1)) {F' : FT} {b : Int32} (hcd : F' 25 0 = nI 1) (hq : Nx P Z Z F') : Tt Γ M_X9_contactsOf [.ref 800000, .ref 10, .int x, .int y, .int z] Z (QVo P Z F' b) (QXo P Z F' [xIO, xIA]) := by
  refine Tt_of' rfl rfl rfl ?_
  show G Γ M_X9_contactsOf (rm M_X9_contactsOf) (Vt Γ M_X9_contactsOf (QVo P Z F' b) (QXo P Z F' [xIO, xIA])) (0, 0) 0 [some (.ref 800000), some (.ref 10), some (.int x), some (.int y), some (.int z), none] [] Z
  have h0 := h
  obtain ⟨hH, ⟨hPI, hPG, hZo⟩, ⟨hZh, hZd, hZw⟩, ⟨hZt, hZc, hZf⟩, ⟨hZr, hZs, hZl⟩, hZfr, hZbd⟩ := h0
  refine G_aload_n (pc := 0) dX9_contactsOf_0 rfl ?_
  refine G_iload_n (pc := 1) dX9_contactsOf_1 rfl ?_
  refine K_V1 (pc := 2) (k' := (1, 6)) mok_X9_frameAt lk_X9_164 (sh_k hH) rfl rfl rfl (aok0 rfl) dX9_contactsOf_2 (C_frameAtX hH hZh.1.1 hPI.1.2.2 hx) rfl (fun v1 Y1 q1 => ?_) (fun E1 Y1 q1 => ?_)
  · exact q1.elim
  · (obtain ⟨rfl, rfl⟩ := q1; exact GX_out rfl ⟨by decide, by decide⟩ ⟨0, rfl, hcd, hq⟩)
theorem K_cOf0Y {Γ : GTy} {Z : HS} {n : Nat} {P : HS → FT → Prop} {F A : FT} {g : GN} (h : CI n Z F g A) {f : Nat} {y z : Int32} (hf : f < g 16 0) (hy : ¬ (nI 0 ≤ y ∧ y ≤ nI 7)) {F' : FT} {b : Int32} (hcd : F' 25 0 = nI 2) (hq : Nx P Z Z F') : Tt Γ M_X9_contactsOf [.ref 800000, .ref 10, .int (nI f), .int y, .int z] Z (QVo P Z F' b) (QXo P Z F' [xIO, xIA]) := by
  refine Tt_of' rfl rfl rfl ?_
  show G Γ M_X9_contactsOf (rm M_X9_contactsOf) (Vt Γ M_X9_contactsOf (QVo P Z F' b) (QXo P Z F' [xIO, xIA])) (0, 0) 0 [some (.ref 800000), some (.ref 10), some (.int (nI f)), some (.int y), some (.int z), none] [] Z
  have h0 := h
  obtain ⟨hH, ⟨hPI, hPG, hZo⟩, ⟨hZh, hZd, hZw⟩, ⟨hZt, hZc, hZf⟩, ⟨hZr, hZs, hZl⟩, hZfr, hZbd⟩ := h0
  refine G_aload_n (pc := 0) dX9_contactsOf_0 rfl ?_
  refine G_iload_n (pc := 1) dX9_contactsOf_1 rfl ?_
  refine K_Vn1r (pc := 2) (k' := (1, 6)) mok_X9_frameAt lk_X9_164 (sh_k hH) rfl rfl rfl (aok0 rfl) dX9_contactsOf_2 (C_frameAtN hH hf hZh.1.1 hPI.1.2.2 (hZf f hf).2.1 (hZf f hf).1.1) rfl ?_
  refine G_astore (pc := 5) dX9_contactsOf_5 (by decide) ?_
  refine G_iload_n (pc := 7) dX9_contactsOf_7 rfl ?_
  refine G_iconst (pc := 8) (v := nI 0) dX9_contactsOf_8 (by first | rfl | decide) ?_
  refine G_bipush (pc := 9) (v := nI 7) dX9_contactsOf_9 (by first | rfl | decide) ?_
  refine K_S3 (pc := 11) (k' := (2, 12)) mok_X9_requireRange lk_X9_71 rfl (aok0 rfl) dX9_contactsOf_11 (C_rangeX hy) rfl (fun v1 Y1 q1 => ?_) (fun E1 Y1 q1 => ?_)
  · exact q1.elim
  · (obtain ⟨rfl, rfl⟩ := q1; exact GX_out rfl ⟨by decide, by decide⟩ ⟨1, rfl, hcd, hq⟩)
theorem K_cOf0Z {Γ : GTy} {Z : HS} {n : Nat} {P : HS → FT → Prop} {F A : FT} {g : GN} (h : CI n Z F g A) {f d : Nat} {z : Int32} (hf : f < g 16 0) (d8 : d < 8) (hz : ¬ (nI 1 ≤ z ∧ z ≤ nI 40)) {F' : FT} {b : Int32} (hcd : F' 25 0 = nI 2) (hq : Nx P Z Z F') : Tt Γ M_X9_contactsOf [.ref 800000, .ref 10, .int (nI f), .int (nI d), .int z] Z (QVo P Z F' b) (QXo P Z F' [xIO, xIA]) := by
  refine Tt_of' rfl rfl rfl ?_
  show G Γ M_X9_contactsOf (rm M_X9_contactsOf) (Vt Γ M_X9_contactsOf (QVo P Z F' b) (QXo P Z F' [xIO, xIA])) (0, 0) 0 [some (.ref 800000), some (.ref 10), some (.int (nI f)), some (.int (nI d)), some (.int z), none] [] Z
  have h0 := h
  obtain ⟨hH, ⟨hPI, hPG, hZo⟩, ⟨hZh, hZd, hZw⟩, ⟨hZt, hZc, hZf⟩, ⟨hZr, hZs, hZl⟩, hZfr, hZbd⟩ := h0
  refine G_aload_n (pc := 0) dX9_contactsOf_0 rfl ?_
  refine G_iload_n (pc := 1) dX9_contactsOf_1 rfl ?_
  refine K_Vn1r (pc := 2) (k' := (1, 6)) mok_X9_frameAt lk_X9_164 (sh_k hH) rfl rfl rfl (aok0 rfl) dX9_contactsOf_2 (C_frameAtN hH hf hZh.1.1 hPI.1.2.2 (hZf f hf).2.1 (hZf f hf).1.1) rfl ?_
  refine G_astore (pc := 5) dX9_contactsOf_5 (by decide) ?_
  refine G_iload_n (pc := 7) dX9_contactsOf_7 rfl ?_
  refine G_iconst (pc := 8) (v := nI 0) dX9_contactsOf_8 (by first | rfl | decide) ?_
  refine G_bipush (pc := 9) (v := nI 7) dX9_contactsOf_9 (by first | rfl | decide) ?_
  refine K_Sn3v (pc := 11) (k' := (2, 12)) mok_X9_requireRange lk_X9_71 rfl (aok0 rfl) dX9_contactsOf_11 (C_rangeN (inN (by omega) (by decide))) rfl ?_
  refine G_iload (pc := 14) dX9_contactsOf_14 rfl ?_
  refine G_iconst (pc := 16) (v := nI 1) dX9_contactsOf_16 (by first | rfl | decide) ?_
  refine G_bipush (pc := 17) (v := nI 40) dX9_contactsOf_17 (by first | rfl | decide) ?_
  refine K_S3 (pc := 19) (k' := (3, 18)) mok_X9_requireRange lk_X9_71 rfl (aok0 rfl) dX9_contactsOf_19 (C_rangeX hz) rfl (fun v1 Y1 q1 => ?_) (fun E1 Y1 q1 => ?_)
  · exact q1.elim
  · (obtain ⟨rfl, rfl⟩ := q1; exact GX_out rfl ⟨by decide, by decide⟩ ⟨1, rfl, hcd, hq⟩)
theorem K_contacts {Γ : GTy} {Z : HS} {P : HS → FT → Prop} {F' : FT} {b x y z : Int32} (hH : SH Z) (hT : Tt Γ M_X9_contactsOf [.ref 800000, .ref 10, .int x, .int y, .int z] Z (QVo P Z F' b) (QXo P Z F' [xIO, xIA])) : Tt Γ M_X9_contacts [.ref 800000, .int x, .int y, .int z] Z (QVo P Z F' b) (QXo P Z F' [xIO, xIA]) := by
  refine Tt_of' rfl rfl rfl ?_
  show G Γ M_X9_contacts (rm M_X9_contacts) (Vt Γ M_X9_contacts (QVo P Z F' b) (QXo P Z F' [xIO, xIA])) (0, 0) 0 [some (.ref 800000), some (.int x), some (.int y), some (.int z)] [] Z
  refine G_aload_n (pc := 0) dX9_contacts_0 rfl ?_
  refine G_aload_n (pc := 1) dX9_contacts_1 rfl ?_
  refine G_getS (pc := 2) fl_X9_55 (sh_k hH) rfl (sh_r8 hH) dX9_contacts_2 ?_
  refine G_iload_n (pc := 5) dX9_contacts_5 rfl ?_
  refine G_iload_n (pc := 6) dX9_contacts_6 rfl ?_
  refine G_iload_n (pc := 7) dX9_contacts_7 rfl ?_
  refine K_V4 (pc := 8) (k' := (3, 18)) mok_X9_contactsOf lk_X9_288 (sh_k hH) rfl rfl rfl (aok0 rfl) dX9_contacts_8 (hT) rfl (fun v1 Y1 q1 => ?_) (fun E1 Y1 q1 => ?_)
  · obtain ⟨e1, e2, e3⟩ := q1; subst e1
    show G _ _ _ _ _ _ _ (_ :: _) _
    refine G_iret (pc := 11) VZ.x dX9_contacts_11 rfl ⟨by decide, by decide⟩ ?_
    exact ⟨rfl, e2, e3⟩
  · exact GX_out rfl ⟨by decide, by decide⟩ q1
theorem run_Z4 {Γ : GTy} (hG : GS Γ) {n : Nat} {Z : HS} {F A : FT} {g : GN} (h : CI n Z F g A) {F2 : FT} (hF : FQ F F2) {f d : Nat} {z : Int32} (hf : f < g 16 0) (d8 : d < 8) : ∃ A', RB 4 A' (mShot F2 f d z) ∧ JV (mShot F2 f d z) ∧ Tn Γ M_X6_run [.ref 400010, .ref (1200000 + f), .int (nI d), .int z] Z (rt none (wB 4 400010 1400010 Z A')) := by
  obtain ⟨hH, ⟨hPI, hPG, hZo⟩, ⟨hZh, hZd, hZw⟩, ⟨hZt, hZc, hZf⟩, hr⟩ := h
  have h1 := hZf f hf
  have h2 := hF.frP (hPI.2.2.2.2.1 f hf)
  have f20 := hPI.1.2.2
  obtain ⟨A', a1, a2, a3⟩ := run_ok4 (Γ := Γ) (z := z) hH.2.1.2 (rB 4 400010 1400010 Z) hG h1.1.2.2.1 h1.1.2.2.2 (Or.inl (by omega)) (fun j hj => (h1.2.2.2.1.2 j hj).trans (hF 118 _ (by decide) (by decide)).symm) h2.2.1.1 h2.2.1.2.1 h2.2.1.2.2 d8
  rw [wB_self] at a3
  exact ⟨A', a1, a2, a3⟩
theorem K_cOf4N {Γ : GTy} {Z : HS} {n : Nat} {P : HS → FT → Prop} {F A : FT} {g : GN} (h : CI n Z F g A) {f d : Nat} {z : Int32} (hf : f < g 16 0) (d8 : d < 8) (hz : nI 1 ≤ z ∧ z ≤ nI 40) {A' : FT} {v : Int32} (hT : Tn Γ M_X6_run [.ref 400010, .ref (1200000 + f), .int (nI d), .int z] Z (rt none (wB 4 400010 1400010 Z A'))) (hv : A' 23 0 = v) {F' : FT} {b : Int32} (hb : v = b) (hcd : F' 25 0 = nI 0) (hq : Nx P Z (wB 4 400010 1400010 Z A') F') : Tt Γ M_X9_contactsOf [.ref 800000, .ref 400010, .int (nI f), .int (nI d), .int z] Z (QVo P Z F' b) (QXo P Z F' [xIO, xIA]) := by
  refine Tt_of' rfl rfl rfl ?_
  show G Γ M_X9_contactsOf (rm M_X9_contactsOf) (Vt Γ M_X9_contactsOf (QVo P Z F' b) (QXo P Z F' [xIO, xIA])) (0, 0) 0 [some (.ref 800000), some (.ref 400010), some (.int (nI f)), some (.int (nI d)), some (.int z), none] [] Z
  have h0 := h
  obtain ⟨hH, ⟨hPI, hPG, hZo⟩, ⟨hZh, hZd, hZw⟩, ⟨hZt, hZc, hZf⟩, ⟨hZr, hZs, hZl⟩, hZfr, hZbd⟩ := h0
  refine G_aload_n (pc := 0) dX9_contactsOf_0 rfl ?_
  refine G_iload_n (pc := 1) dX9_contactsOf_1 rfl ?_
  refine K_Vn1r (pc := 2) (k' := (1, 6)) mok_X9_frameAt lk_X9_164 (sh_k hH) rfl rfl rfl (aok0 rfl) dX9_contactsOf_2 (C_frameAtN hH hf hZh.1.1 hPI.1.2.2 (hZf f hf).2.1 (hZf f hf).1.1) rfl ?_
  refine G_astore (pc := 5) dX9_contactsOf_5 (by decide) ?_
  refine G_iload_n (pc := 7) dX9_contactsOf_7 rfl ?_
  refine G_iconst (pc := 8) (v := nI 0) dX9_contactsOf_8 (by first | rfl | decide) ?_
  refine G_bipush (pc := 9) (v := nI 7) dX9_contactsOf_9 (by first | rfl | decide) ?_
  refine K_Sn3v (pc := 11) (k' := (2, 12)) mok_X9_requireRange lk_X9_71 rfl (aok0 rfl) dX9_contactsOf_11 (C_rangeN (inN (by omega) (by decide))) rfl ?_
  refine G_iload (pc := 14) dX9_contactsOf_14 rfl ?_
  refine G_iconst (pc := 16) (v := nI 1) dX9_contactsOf_16 (by first | rfl | decide) ?_
  refine G_bipush (pc := 17) (v := nI 40) dX9_contactsOf_17 (by first | rfl | decide) ?_
  refine K_Sn3v (pc := 19) (k' := (3, 18)) mok_X9_requireRange lk_X9_71 rfl (aok0 rfl) dX9_contactsOf_19 (C_rangeN hz) rfl ?_
  refine G_aload_n (pc := 22) dX9_contactsOf_22 rfl ?_
  refine G_aload (pc := 23) dX9_contactsOf_23 rfl ?_
  refine G_getS (pc := 25) fl_X9_195 (hZf f hf).1.1 rfl (hZf f hf).1.2.1 dX9_contactsOf_25 ?_
  refine G_iload_n (pc := 28) dX9_contactsOf_28 rfl ?_
  refine G_iload (pc := 29) dX9_contactsOf_29 rfl ?_
  refine K_U3v (pc := 31) (cb := 4) (k' := (3, 18)) mok_X6_run lk_X9_202_4 rfl (sh_c9 hH) rfl rfl (aok0 rfl) dX9_contactsOf_31 (hT) rfl ?_
  refine G_aload_n (pc := 34) dX9_contactsOf_34 rfl ?_
  refine G_getIv (pc := 35) (v := v) ((wB_I (Or.inl rfl)).trans hv) fl_X9_353_4 (sh_c9 hH) rfl dX9_contactsOf_35 ?_
  refine G_iret (pc := 38) VZ.x dX9_contactsOf_38 rfl ⟨by decide, by decide⟩ ?_
  exact ⟨congrArg (fun z => some (Value.int z)) hb, hcd, hq⟩
theorem K_cOf4X {Γ : GTy} {Z : HS} {n : Nat} {P : HS → FT → Prop} {F A : FT} {g : GN} (h : CI n Z F g A) {x y z : Int32} (hx : ¬ (nI 0 ≤ x ∧ x ≤ nI (g 16 0) - nI 1)) {F' : FT} {b : Int32} (hcd : F' 25 0 = nI 1) (hq : Nx P Z Z F') : Tt Γ M_X9_contactsOf [.ref 800000, .ref 400010, .int x, .int y, .int z] Z (QVo P Z F' b) (QXo P Z F' [xIO, xIA]) := by
  refine Tt_of' rfl rfl rfl ?_
  show G Γ M_X9_contactsOf (rm M_X9_contactsOf) (Vt Γ M_X9_contactsOf (QVo P Z F' b) (QXo P Z F' [xIO, xIA])) (0, 0) 0 [some (.ref 800000), some (.ref 400010), some (.int x), some (.int y), some (.int z), none] [] Z
  have h0 := h
  obtain ⟨hH, ⟨hPI, hPG, hZo⟩, ⟨hZh, hZd, hZw⟩, ⟨hZt, hZc, hZf⟩, ⟨hZr, hZs, hZl⟩, hZfr, hZbd⟩ := h0
  refine G_aload_n (pc := 0) dX9_contactsOf_0 rfl ?_
  refine G_iload_n (pc := 1) dX9_contactsOf_1 rfl ?_
  refine K_V1 (pc := 2) (k' := (1, 6)) mok_X9_frameAt lk_X9_164 (sh_k hH) rfl rfl rfl (aok0 rfl) dX9_contactsOf_2 (C_frameAtX hH hZh.1.1 hPI.1.2.2 hx) rfl (fun v1 Y1 q1 => ?_) (fun E1 Y1 q1 => ?_)
  · exact q1.elim
  · (obtain ⟨rfl, rfl⟩ := q1; exact GX_out rfl ⟨by decide, by decide⟩ ⟨0, rfl, hcd, hq⟩)
theorem K_cOf4Y {Γ : GTy} {Z : HS} {n : Nat} {P : HS → FT → Prop} {F A : FT} {g : GN} (h : CI n Z F g A) {f : Nat} {y z : Int32} (hf : f < g 16 0) (hy : ¬ (nI 0 ≤ y ∧ y ≤ nI 7)) {F' : FT} {b : Int32} (hcd : F' 25 0 = nI 2) (hq : Nx P Z Z F') : Tt Γ M_X9_contactsOf [.ref 800000, .ref 400010, .int (nI f), .int y, .int z] Z (QVo P Z F' b) (QXo P Z F' [xIO, xIA]) := by
  refine Tt_of' rfl rfl rfl ?_
  show G Γ M_X9_contactsOf (rm M_X9_contactsOf) (Vt Γ M_X9_contactsOf (QVo P Z F' b) (QXo P Z F' [xIO, xIA])) (0, 0) 0 [some (.ref 800000), some (.ref 400010), some (.int (nI f)), some (.int y), some (.int z), none] [] Z
  have h0 := h
  obtain ⟨hH, ⟨hPI, hPG, hZo⟩, ⟨hZh, hZd, hZw⟩, ⟨hZt, hZc, hZf⟩, ⟨hZr, hZs, hZl⟩, hZfr, hZbd⟩ := h0
  refine G_aload_n (pc := 0) dX9_contactsOf_0 rfl ?_
  refine G_iload_n (pc := 1) dX9_contactsOf_1 rfl ?_
  refine K_Vn1r (pc := 2) (k' := (1, 6)) mok_X9_frameAt lk_X9_164 (sh_k hH) rfl rfl rfl (aok0 rfl) dX9_contactsOf_2 (C_frameAtN hH hf hZh.1.1 hPI.1.2.2 (hZf f hf).2.1 (hZf f hf).1.1) rfl ?_
  refine G_astore (pc := 5) dX9_contactsOf_5 (by decide) ?_
  refine G_iload_n (pc := 7) dX9_contactsOf_7 rfl ?_
  refine G_iconst (pc := 8) (v := nI 0) dX9_contactsOf_8 (by first | rfl | decide) ?_
  refine G_bipush (pc := 9) (v := nI 7) dX9_contactsOf_9 (by first | rfl | decide) ?_
  refine K_S3 (pc := 11) (k' := (2, 12)) mok_X9_requireRange lk_X9_71 rfl (aok0 rfl) dX9_contactsOf_11 (C_rangeX hy) rfl (fun v1 Y1 q1 => ?_) (fun E1 Y1 q1 => ?_)
  · exact q1.elim
  · (obtain ⟨rfl, rfl⟩ := q1; exact GX_out rfl ⟨by decide, by decide⟩ ⟨1, rfl, hcd, hq⟩)
theorem K_cOf4Z {Γ : GTy} {Z : HS} {n : Nat} {P : HS → FT → Prop} {F A : FT} {g : GN} (h : CI n Z F g A) {f d : Nat} {z : Int32} (hf : f < g 16 0) (d8 : d < 8) (hz : ¬ (nI 1 ≤ z ∧ z ≤ nI 40)) {F' : FT} {b : Int32} (hcd : F' 25 0 = nI 2) (hq : Nx P Z Z F') : Tt Γ M_X9_contactsOf [.ref 800000, .ref 400010, .int (nI f), .int (nI d), .int z] Z (QVo P Z F' b) (QXo P Z F' [xIO, xIA]) := by
  refine Tt_of' rfl rfl rfl ?_
  show G Γ M_X9_contactsOf (rm M_X9_contactsOf) (Vt Γ M_X9_contactsOf (QVo P Z F' b) (QXo P Z F' [xIO, xIA])) (0, 0) 0 [some (.ref 800000), some (.ref 400010), some (.int (nI f)), some (.int (nI d)), some (.int z), none] [] Z
  have h0 := h
  obtain ⟨hH, ⟨hPI, hPG, hZo⟩, ⟨hZh, hZd, hZw⟩, ⟨hZt, hZc, hZf⟩, ⟨hZr, hZs, hZl⟩, hZfr, hZbd⟩ := h0
  refine G_aload_n (pc := 0) dX9_contactsOf_0 rfl ?_
  refine G_iload_n (pc := 1) dX9_contactsOf_1 rfl ?_
  refine K_Vn1r (pc := 2) (k' := (1, 6)) mok_X9_frameAt lk_X9_164 (sh_k hH) rfl rfl rfl (aok0 rfl) dX9_contactsOf_2 (C_frameAtN hH hf hZh.1.1 hPI.1.2.2 (hZf f hf).2.1 (hZf f hf).1.1) rfl ?_
  refine G_astore (pc := 5) dX9_contactsOf_5 (by decide) ?_
  refine G_iload_n (pc := 7) dX9_contactsOf_7 rfl ?_
  refine G_iconst (pc := 8) (v := nI 0) dX9_contactsOf_8 (by first | rfl | decide) ?_
  refine G_bipush (pc := 9) (v := nI 7) dX9_contactsOf_9 (by first | rfl | decide) ?_
  refine K_Sn3v (pc := 11) (k' := (2, 12)) mok_X9_requireRange lk_X9_71 rfl (aok0 rfl) dX9_contactsOf_11 (C_rangeN (inN (by omega) (by decide))) rfl ?_
  refine G_iload (pc := 14) dX9_contactsOf_14 rfl ?_
  refine G_iconst (pc := 16) (v := nI 1) dX9_contactsOf_16 (by first | rfl | decide) ?_
  refine G_bipush (pc := 17) (v := nI 40) dX9_contactsOf_17 (by first | rfl | decide) ?_
  refine K_S3 (pc := 19) (k' := (3, 18)) mok_X9_requireRange lk_X9_71 rfl (aok0 rfl) dX9_contactsOf_19 (C_rangeX hz) rfl (fun v1 Y1 q1 => ?_) (fun E1 Y1 q1 => ?_)
  · exact q1.elim
  · (obtain ⟨rfl, rfl⟩ := q1; exact GX_out rfl ⟨by decide, by decide⟩ ⟨1, rfl, hcd, hq⟩)
theorem K_contactsByPairs {Γ : GTy} {Z : HS} {P : HS → FT → Prop} {F' : FT} {b x y z : Int32} (hH : SH Z) (hT : Tt Γ M_X9_contactsOf [.ref 800000, .ref 400010, .int x, .int y, .int z] Z (QVo P Z F' b) (QXo P Z F' [xIO, xIA])) : Tt Γ M_X9_contactsByPairs [.ref 800000, .int x, .int y, .int z] Z (QVo P Z F' b) (QXo P Z F' [xIO, xIA]) := by
  refine Tt_of' rfl rfl rfl ?_
  show G Γ M_X9_contactsByPairs (rm M_X9_contactsByPairs) (Vt Γ M_X9_contactsByPairs (QVo P Z F' b) (QXo P Z F' [xIO, xIA])) (0, 0) 0 [some (.ref 800000), some (.int x), some (.int y), some (.int z)] [] Z
  refine G_aload_n (pc := 0) dX9_contactsByPairs_0 rfl ?_
  refine G_aload_n (pc := 1) dX9_contactsByPairs_1 rfl ?_
  refine G_getS (pc := 2) fl_X9_62 (sh_k hH) rfl (sh_r9 hH) dX9_contactsByPairs_2 ?_
  refine G_iload_n (pc := 5) dX9_contactsByPairs_5 rfl ?_
  refine G_iload_n (pc := 6) dX9_contactsByPairs_6 rfl ?_
  refine G_iload_n (pc := 7) dX9_contactsByPairs_7 rfl ?_
  refine K_V4 (pc := 8) (k' := (3, 18)) mok_X9_contactsOf lk_X9_288 (sh_k hH) rfl rfl rfl (aok0 rfl) dX9_contactsByPairs_8 (hT) rfl (fun v1 Y1 q1 => ?_) (fun E1 Y1 q1 => ?_)
  · obtain ⟨e1, e2, e3⟩ := q1; subst e1
    show G _ _ _ _ _ _ _ (_ :: _) _
    refine G_iret (pc := 11) VZ.x dX9_contactsByPairs_11 rfl ⟨by decide, by decide⟩ ?_
    exact ⟨rfl, e2, e3⟩
  · exact GX_out rfl ⟨by decide, by decide⟩ q1
