-- ===== the law's wrappers =====
def QW (n : Nat) (Z : HS) (F' : FT) (y : Int64) : Option Value → HS → Prop := fun r Z' => ∃ m, m < 10 ∧ r = some (.int (nI m)) ∧ F' 25 0 = nI m ∧ Nx n Z Z' F' ∧ (m = 0 → xJ Z' 1990000 0 = y)
theorem ct_13 : Cond.castable xIA "java/lang/IllegalArgumentException" ∈ XW := by decide +kernel
theorem ct_19 : Cond.castable xIO "java/lang/IndexOutOfBoundsException" ∈ XW := by decide +kernel
theorem ct_21 : Cond.castable xIS "java/lang/IllegalStateException" ∈ XW := by decide +kernel
theorem xJ_sJe {X : HS} {a i : Nat} {v : Int64} : xJ (sJ X a i v) a i = v := if_pos ⟨rfl, rfl⟩
theorem Nx.sJ {n : Nat} {Z Z' : HS} {F' : FT} {a i : Nat} {v : Int64} (h : Nx n Z Z' F') : Nx n Z (sJ Z' a i v) F' := by
  obtain ⟨h1, g, A, h2⟩ := h
  exact ⟨h1, g, A, ((AG.refl Z').sJ a i v).CI h2 h2.2.2.2.2.2.1⟩
theorem SH_nx {n : Nat} {Z Z' : HS} {F' : FT} (h : Nx n Z Z' F') : SH Z' := by
  obtain ⟨-, g, A, h2⟩ := h
  exact h2.1
theorem W_cell {Γ : GTy} {Z : HS} {n : Nat} {F' : FT} {b x0 x1 : Int32} (hH : SH Z) (hop : Tt Γ M_X9_cell [.ref 800000, .int x0, .int x1] Z (QVo n Z F' b) (QXo n Z F' [xIO])) : Tw Γ M_L_cell [.ref 800000, .int x0, .int x1, .ref 1990000] Z (QW n Z F' b.toInt64) noX := by
  refine Tw_of' rfl rfl ?_
  show G Γ M_L_cell (rm M_L_cell) (Vt Γ M_L_cell (QW n Z F' b.toInt64) noX) (0, 0) 0 [some (.ref 800000), some (.int x0), some (.int x1), some (.ref 1990000), none] [] Z
  have hJ := hH.2.2.2.2.2.1
  refine G_aload_n (pc := 0) dL_cell_0 rfl ?_
  refine G_iconst (pc := 1) (v := nI 0) dL_cell_1 (by first | rfl | decide) ?_
  refine G_aload_n (pc := 2) dL_cell_2 rfl ?_
  refine G_iload_n (pc := 3) dL_cell_3 rfl ?_
  refine G_iload_n (pc := 4) dL_cell_4 rfl ?_
  refine K_V2 (pc := 5) (k' := (2, 12)) mok_X9_cell lk_L_77 (sh_k hH) rfl rfl rfl (aok0 rfl) dL_cell_5 (hop) rfl (fun v1 Y1 q1 => ?_) (fun E1 Y1 q1 => ?_)
  · obtain ⟨e1, e2, e3⟩ := q1; subst e1; have hH2 := SH_nx e3
    show G _ _ _ _ _ _ _ (_ :: _) _
    refine G_i2l (pc := 8) dL_cell_8 ?_
    refine G_last (pc := 9) (j := 0) hH2.2.2.2.2.2.1 rfl (by rw [hH2.2.2.2.2.2.2]; decide) (by omega) dL_cell_9 ?_
    refine G_goto (pc := 10) (tgt := 17) dL_cell_10 (by decide) ?_
    refine G_iconst (pc := 17) (v := nI 0) dL_cell_17 (by first | rfl | decide) ?_
    refine G_iret (pc := 18) VZ.x dL_cell_18 rfl ⟨by decide, by decide⟩ ?_
    refine ⟨0, by decide, rfl, e2, e3.sJ, fun _ => ?_⟩
    exact xJ_sJe
  · obtain ⟨i9, h1, h2, h3⟩ := q1
    rcases i9 with _ | i9
    · have h1 : some xIO = some E1 := h1
      obtain rfl := Option.some.inj h1
      refine GX_catch [] _ _ rfl (fun z hz => absurd hz List.not_mem_nil) rfl (by decide) cl_L_19 ct_19 (hp := 13) (i := 4) (len := 2) rfl (Or.inr ⟨rfl, dL_cell_13⟩) (by decide) ?_
      refine G_iconst (pc := 15) (v := nI 1) dL_cell_15 (by first | rfl | decide) ?_
      refine G_iret (pc := 16) VZ.x dL_cell_16 rfl ⟨by decide, by decide⟩ ?_
      exact ⟨1, by decide, rfl, h2, h3, fun q => absurd q (by decide)⟩
    · exact absurd h1 (by simp)
theorem W_setPrice {Γ : GTy} {Z : HS} {n : Nat} {F' : FT} {b x0 : Int32} (hH : SH Z) (hop : Tt Γ M_X9_setPrice [.ref 800000, .int x0] Z (QVo n Z F' b) (QXo n Z F' [xIA])) : Tw Γ M_L_setPrice [.ref 800000, .int x0, .ref 1990000] Z (QW n Z F' b.toInt64) noX := by
  refine Tw_of' rfl rfl ?_
  show G Γ M_L_setPrice (rm M_L_setPrice) (Vt Γ M_L_setPrice (QW n Z F' b.toInt64) noX) (0, 0) 0 [some (.ref 800000), some (.int x0), some (.ref 1990000), none] [] Z
  have hJ := hH.2.2.2.2.2.1
  refine G_aload_n (pc := 0) dL_setPrice_0 rfl ?_
  refine G_iconst (pc := 1) (v := nI 0) dL_setPrice_1 (by first | rfl | decide) ?_
  refine G_aload_n (pc := 2) dL_setPrice_2 rfl ?_
  refine G_iload_n (pc := 3) dL_setPrice_3 rfl ?_
  refine K_V1 (pc := 4) (k' := (1, 6)) mok_X9_setPrice lk_L_7 (sh_k hH) rfl rfl rfl (aok0 rfl) dL_setPrice_4 (hop) rfl (fun v1 Y1 q1 => ?_) (fun E1 Y1 q1 => ?_)
  · obtain ⟨e1, e2, e3⟩ := q1; subst e1; have hH2 := SH_nx e3
    show G _ _ _ _ _ _ _ (_ :: _) _
    refine G_i2l (pc := 7) dL_setPrice_7 ?_
    refine G_last (pc := 8) (j := 0) hH2.2.2.2.2.2.1 rfl (by rw [hH2.2.2.2.2.2.2]; decide) (by omega) dL_setPrice_8 ?_
    refine G_goto (pc := 9) (tgt := 15) dL_setPrice_9 (by decide) ?_
    refine G_iconst (pc := 15) (v := nI 0) dL_setPrice_15 (by first | rfl | decide) ?_
    refine G_iret (pc := 16) VZ.x dL_setPrice_16 rfl ⟨by decide, by decide⟩ ?_
    refine ⟨0, by decide, rfl, e2, e3.sJ, fun _ => ?_⟩
    exact xJ_sJe
  · obtain ⟨i9, h1, h2, h3⟩ := q1
    rcases i9 with _ | i9
    · have h1 : some xIA = some E1 := h1
      obtain rfl := Option.some.inj h1
      refine GX_catch [] _ _ rfl (fun z hz => absurd hz List.not_mem_nil) rfl (by decide) cl_L_13 ct_13 (hp := 12) (i := 3) (len := 1) rfl (Or.inl ⟨3, rfl, rfl, dL_setPrice_12⟩) (by decide) ?_
      refine G_iconst (pc := 13) (v := nI 1) dL_setPrice_13 (by first | rfl | decide) ?_
      refine G_iret (pc := 14) VZ.x dL_setPrice_14 rfl ⟨by decide, by decide⟩ ?_
      exact ⟨1, by decide, rfl, h2, h3, fun q => absurd q (by decide)⟩
    · exact absurd h1 (by simp)
theorem W_rent {Γ : GTy} {Z : HS} {n : Nat} {F' : FT} {b x0 x1 : Int32} (hH : SH Z) (hop : Tt Γ M_X9_rent [.ref 800000, .int x0, .int x1] Z (QVo n Z F' b) (QXo n Z F' [xIO, xIS])) : Tw Γ M_L_rent [.ref 800000, .int x0, .int x1, .ref 1990000] Z (QW n Z F' b.toInt64) noX := by
  refine Tw_of' rfl rfl ?_
  show G Γ M_L_rent (rm M_L_rent) (Vt Γ M_L_rent (QW n Z F' b.toInt64) noX) (0, 0) 0 [some (.ref 800000), some (.int x0), some (.int x1), some (.ref 1990000), none] [] Z
  have hJ := hH.2.2.2.2.2.1
  refine G_aload_n (pc := 0) dL_rent_0 rfl ?_
  refine G_iconst (pc := 1) (v := nI 0) dL_rent_1 (by first | rfl | decide) ?_
  refine G_aload_n (pc := 2) dL_rent_2 rfl ?_
  refine G_iload_n (pc := 3) dL_rent_3 rfl ?_
  refine G_iload_n (pc := 4) dL_rent_4 rfl ?_
  refine K_V2 (pc := 5) (k' := (4, 23)) mok_X9_rent lk_L_15 (sh_k hH) rfl rfl rfl (fun _ => ⟨rfl, aokL [800000, 1990000] (by intro r hr; exact hr) (by intro r hr; simp only [List.mem_cons, List.not_mem_nil, or_false] at hr; rcases hr with rfl | rfl; exact (by rw [sh_k hH]; decide); exact (by rw [hJ]; decide)), aokL [1990000] (by intro r hr; exact hr) (by intro r hr; rw [List.mem_singleton.mp hr]; exact (by rw [hJ]; decide))⟩) dL_rent_5 (hop) rfl (fun v1 Y1 q1 => ?_) (fun E1 Y1 q1 => ?_)
  · obtain ⟨e1, e2, e3⟩ := q1; subst e1; have hH2 := SH_nx e3
    show G _ _ _ _ _ _ _ (_ :: _) _
    refine G_i2l (pc := 8) dL_rent_8 ?_
    refine G_last (pc := 9) (j := 0) hH2.2.2.2.2.2.1 rfl (by rw [hH2.2.2.2.2.2.2]; decide) (by omega) dL_rent_9 ?_
    refine G_goto (pc := 10) (tgt := 21) dL_rent_10 (by decide) ?_
    refine G_iconst (pc := 21) (v := nI 0) dL_rent_21 (by first | rfl | decide) ?_
    refine G_iret (pc := 22) VZ.x dL_rent_22 rfl ⟨by decide, by decide⟩ ?_
    refine ⟨0, by decide, rfl, e2, e3.sJ, fun _ => ?_⟩
    exact xJ_sJe
  · obtain ⟨i9, h1, h2, h3⟩ := q1
    rcases i9 with _ | _ | i9
    · have h1 : some xIO = some E1 := h1
      obtain rfl := Option.some.inj h1
      refine GX_catch [] _ _ rfl (fun z hz => absurd hz List.not_mem_nil) rfl (by decide) cl_L_19 ct_19 (hp := 13) (i := 4) (len := 2) rfl (Or.inr ⟨rfl, dL_rent_13⟩) (by decide) ?_
      refine G_iconst (pc := 15) (v := nI 1) dL_rent_15 (by first | rfl | decide) ?_
      refine G_iret (pc := 16) VZ.x dL_rent_16 rfl ⟨by decide, by decide⟩ ?_
      exact ⟨1, by decide, rfl, h2, h3, fun q => absurd q (by decide)⟩
    · have h1 : some xIS = some E1 := h1
      obtain rfl := Option.some.inj h1
      refine GX_catch [_] _ _ rfl (fun z hz => by rcases List.mem_cons.mp hz with rfl | hz; exact Or.inr ⟨by decide, _, cl_L_19, by decide⟩; exact absurd hz List.not_mem_nil) rfl (by decide) cl_L_21 ct_21 (hp := 17) (i := 4) (len := 2) rfl (Or.inr ⟨rfl, dL_rent_17⟩) (by decide) ?_
      refine G_iconst (pc := 19) (v := nI 2) dL_rent_19 (by first | rfl | decide) ?_
      refine G_iret (pc := 20) VZ.x dL_rent_20 rfl ⟨by decide, by decide⟩ ?_
      exact ⟨2, by decide, rfl, h2, h3, fun q => absurd q (by decide)⟩
    · exact absurd h1 (by simp)
theorem W_end {Γ : GTy} {Z : HS} {n : Nat} {F' : FT} {b x0 : Int32} (hH : SH Z) (hop : Tt Γ M_X9_end [.ref 800000, .int x0] Z (QVo n Z F' b) (QXo n Z F' [xIO, xIS])) : Tw Γ M_L_end [.ref 800000, .int x0, .ref 1990000] Z (QW n Z F' b.toInt64) noX := by
  refine Tw_of' rfl rfl ?_
  show G Γ M_L_end (rm M_L_end) (Vt Γ M_L_end (QW n Z F' b.toInt64) noX) (0, 0) 0 [some (.ref 800000), some (.int x0), some (.ref 1990000), none] [] Z
  have hJ := hH.2.2.2.2.2.1
  refine G_aload_n (pc := 0) dL_end_0 rfl ?_
  refine G_iconst (pc := 1) (v := nI 0) dL_end_1 (by first | rfl | decide) ?_
  refine G_aload_n (pc := 2) dL_end_2 rfl ?_
  refine G_iload_n (pc := 3) dL_end_3 rfl ?_
  refine K_V1 (pc := 4) (k' := (2, 12)) mok_X9_end lk_L_23 (sh_k hH) rfl rfl rfl (aok0 rfl) dL_end_4 (hop) rfl (fun v1 Y1 q1 => ?_) (fun E1 Y1 q1 => ?_)
  · obtain ⟨e1, e2, e3⟩ := q1; subst e1; have hH2 := SH_nx e3
    show G _ _ _ _ _ _ _ (_ :: _) _
    refine G_i2l (pc := 7) dL_end_7 ?_
    refine G_last (pc := 8) (j := 0) hH2.2.2.2.2.2.1 rfl (by rw [hH2.2.2.2.2.2.2]; decide) (by omega) dL_end_8 ?_
    refine G_goto (pc := 9) (tgt := 18) dL_end_9 (by decide) ?_
    refine G_iconst (pc := 18) (v := nI 0) dL_end_18 (by first | rfl | decide) ?_
    refine G_iret (pc := 19) VZ.x dL_end_19 rfl ⟨by decide, by decide⟩ ?_
    refine ⟨0, by decide, rfl, e2, e3.sJ, fun _ => ?_⟩
    exact xJ_sJe
  · obtain ⟨i9, h1, h2, h3⟩ := q1
    rcases i9 with _ | _ | i9
    · have h1 : some xIO = some E1 := h1
      obtain rfl := Option.some.inj h1
      refine GX_catch [] _ _ rfl (fun z hz => absurd hz List.not_mem_nil) rfl (by decide) cl_L_19 ct_19 (hp := 12) (i := 3) (len := 1) rfl (Or.inl ⟨3, rfl, rfl, dL_end_12⟩) (by decide) ?_
      refine G_iconst (pc := 13) (v := nI 1) dL_end_13 (by first | rfl | decide) ?_
      refine G_iret (pc := 14) VZ.x dL_end_14 rfl ⟨by decide, by decide⟩ ?_
      exact ⟨1, by decide, rfl, h2, h3, fun q => absurd q (by decide)⟩
    · have h1 : some xIS = some E1 := h1
      obtain rfl := Option.some.inj h1
      refine GX_catch [_] _ _ rfl (fun z hz => by rcases List.mem_cons.mp hz with rfl | hz; exact Or.inr ⟨by decide, _, cl_L_19, by decide⟩; exact absurd hz List.not_mem_nil) rfl (by decide) cl_L_21 ct_21 (hp := 15) (i := 3) (len := 1) rfl (Or.inl ⟨3, rfl, rfl, dL_end_15⟩) (by decide) ?_
      refine G_iconst (pc := 16) (v := nI 2) dL_end_16 (by first | rfl | decide) ?_
      refine G_iret (pc := 17) VZ.x dL_end_17 rfl ⟨by decide, by decide⟩ ?_
      exact ⟨2, by decide, rfl, h2, h3, fun q => absurd q (by decide)⟩
    · exact absurd h1 (by simp)
theorem W_tear {Γ : GTy} {Z : HS} {n : Nat} {F' : FT} {b x0 : Int32} (hH : SH Z) (hop : Tt Γ M_X9_tear [.ref 800000, .int x0] Z (QVo n Z F' b) (QXo n Z F' [xIO, xIS])) : Tw Γ M_L_tear [.ref 800000, .int x0, .ref 1990000] Z (QW n Z F' b.toInt64) noX := by
  refine Tw_of' rfl rfl ?_
  show G Γ M_L_tear (rm M_L_tear) (Vt Γ M_L_tear (QW n Z F' b.toInt64) noX) (0, 0) 0 [some (.ref 800000), some (.int x0), some (.ref 1990000), none] [] Z
  have hJ := hH.2.2.2.2.2.1
  refine G_aload_n (pc := 0) dL_tear_0 rfl ?_
  refine G_iconst (pc := 1) (v := nI 0) dL_tear_1 (by first | rfl | decide) ?_
  refine G_aload_n (pc := 2) dL_tear_2 rfl ?_
  refine G_iload_n (pc := 3) dL_tear_3 rfl ?_
  refine K_V1 (pc := 4) (k' := (2, 12)) mok_X9_tear lk_L_26 (sh_k hH) rfl rfl rfl (aok0 rfl) dL_tear_4 (hop) rfl (fun v1 Y1 q1 => ?_) (fun E1 Y1 q1 => ?_)
  · obtain ⟨e1, e2, e3⟩ := q1; subst e1; have hH2 := SH_nx e3
    show G _ _ _ _ _ _ _ (_ :: _) _
    refine G_i2l (pc := 7) dL_tear_7 ?_
    refine G_last (pc := 8) (j := 0) hH2.2.2.2.2.2.1 rfl (by rw [hH2.2.2.2.2.2.2]; decide) (by omega) dL_tear_8 ?_
    refine G_goto (pc := 9) (tgt := 18) dL_tear_9 (by decide) ?_
    refine G_iconst (pc := 18) (v := nI 0) dL_tear_18 (by first | rfl | decide) ?_
    refine G_iret (pc := 19) VZ.x dL_tear_19 rfl ⟨by decide, by decide⟩ ?_
    refine ⟨0, by decide, rfl, e2, e3.sJ, fun _ => ?_⟩
    exact xJ_sJe
  · obtain ⟨i9, h1, h2, h3⟩ := q1
    rcases i9 with _ | _ | i9
    · have h1 : some xIO = some E1 := h1
      obtain rfl := Option.some.inj h1
      refine GX_catch [] _ _ rfl (fun z hz => absurd hz List.not_mem_nil) rfl (by decide) cl_L_19 ct_19 (hp := 12) (i := 3) (len := 1) rfl (Or.inl ⟨3, rfl, rfl, dL_tear_12⟩) (by decide) ?_
      refine G_iconst (pc := 13) (v := nI 1) dL_tear_13 (by first | rfl | decide) ?_
      refine G_iret (pc := 14) VZ.x dL_tear_14 rfl ⟨by decide, by decide⟩ ?_
      exact ⟨1, by decide, rfl, h2, h3, fun q => absurd q (by decide)⟩
    · have h1 : some xIS = some E1 := h1
      obtain rfl := Option.some.inj h1
      refine GX_catch [_] _ _ rfl (fun z hz => by rcases List.mem_cons.mp hz with rfl | hz; exact Or.inr ⟨by decide, _, cl_L_19, by decide⟩; exact absurd hz List.not_mem_nil) rfl (by decide) cl_L_21 ct_21 (hp := 15) (i := 3) (len := 1) rfl (Or.inl ⟨3, rfl, rfl, dL_tear_15⟩) (by decide) ?_
      refine G_iconst (pc := 16) (v := nI 2) dL_tear_16 (by first | rfl | decide) ?_
      refine G_iret (pc := 17) VZ.x dL_tear_17 rfl ⟨by decide, by decide⟩ ?_
      exact ⟨2, by decide, rfl, h2, h3, fun q => absurd q (by decide)⟩
    · exact absurd h1 (by simp)
theorem W_mend {Γ : GTy} {Z : HS} {n : Nat} {F' : FT} {b x0 : Int32} (hH : SH Z) (hop : Tt Γ M_X9_mend [.ref 800000, .int x0] Z (QVo n Z F' b) (QXo n Z F' [xIO, xIS])) : Tw Γ M_L_mend [.ref 800000, .int x0, .ref 1990000] Z (QW n Z F' b.toInt64) noX := by
  refine Tw_of' rfl rfl ?_
  show G Γ M_L_mend (rm M_L_mend) (Vt Γ M_L_mend (QW n Z F' b.toInt64) noX) (0, 0) 0 [some (.ref 800000), some (.int x0), some (.ref 1990000), none] [] Z
  have hJ := hH.2.2.2.2.2.1
  refine G_aload_n (pc := 0) dL_mend_0 rfl ?_
  refine G_iconst (pc := 1) (v := nI 0) dL_mend_1 (by first | rfl | decide) ?_
  refine G_aload_n (pc := 2) dL_mend_2 rfl ?_
  refine G_iload_n (pc := 3) dL_mend_3 rfl ?_
  refine K_V1 (pc := 4) (k' := (2, 12)) mok_X9_mend lk_L_29 (sh_k hH) rfl rfl rfl (aok0 rfl) dL_mend_4 (hop) rfl (fun v1 Y1 q1 => ?_) (fun E1 Y1 q1 => ?_)
  · obtain ⟨e1, e2, e3⟩ := q1; subst e1; have hH2 := SH_nx e3
    show G _ _ _ _ _ _ _ (_ :: _) _
    refine G_i2l (pc := 7) dL_mend_7 ?_
    refine G_last (pc := 8) (j := 0) hH2.2.2.2.2.2.1 rfl (by rw [hH2.2.2.2.2.2.2]; decide) (by omega) dL_mend_8 ?_
    refine G_goto (pc := 9) (tgt := 18) dL_mend_9 (by decide) ?_
    refine G_iconst (pc := 18) (v := nI 0) dL_mend_18 (by first | rfl | decide) ?_
    refine G_iret (pc := 19) VZ.x dL_mend_19 rfl ⟨by decide, by decide⟩ ?_
    refine ⟨0, by decide, rfl, e2, e3.sJ, fun _ => ?_⟩
    exact xJ_sJe
  · obtain ⟨i9, h1, h2, h3⟩ := q1
    rcases i9 with _ | _ | i9
    · have h1 : some xIO = some E1 := h1
      obtain rfl := Option.some.inj h1
      refine GX_catch [] _ _ rfl (fun z hz => absurd hz List.not_mem_nil) rfl (by decide) cl_L_19 ct_19 (hp := 12) (i := 3) (len := 1) rfl (Or.inl ⟨3, rfl, rfl, dL_mend_12⟩) (by decide) ?_
      refine G_iconst (pc := 13) (v := nI 1) dL_mend_13 (by first | rfl | decide) ?_
      refine G_iret (pc := 14) VZ.x dL_mend_14 rfl ⟨by decide, by decide⟩ ?_
      exact ⟨1, by decide, rfl, h2, h3, fun q => absurd q (by decide)⟩
    · have h1 : some xIS = some E1 := h1
      obtain rfl := Option.some.inj h1
      refine GX_catch [_] _ _ rfl (fun z hz => by rcases List.mem_cons.mp hz with rfl | hz; exact Or.inr ⟨by decide, _, cl_L_19, by decide⟩; exact absurd hz List.not_mem_nil) rfl (by decide) cl_L_21 ct_21 (hp := 15) (i := 3) (len := 1) rfl (Or.inl ⟨3, rfl, rfl, dL_mend_15⟩) (by decide) ?_
      refine G_iconst (pc := 16) (v := nI 2) dL_mend_16 (by first | rfl | decide) ?_
      refine G_iret (pc := 17) VZ.x dL_mend_17 rfl ⟨by decide, by decide⟩ ?_
      exact ⟨2, by decide, rfl, h2, h3, fun q => absurd q (by decide)⟩
    · exact absurd h1 (by simp)
theorem W_pass {Γ : GTy} {Z : HS} {n : Nat} {F' : FT} {b x0 : Int32} (hH : SH Z) (hop : Tt Γ M_X9_pass [.ref 800000, .int x0] Z (QVo n Z F' b) (QXo n Z F' [xIA, xIS])) : Tw Γ M_L_pass [.ref 800000, .int x0, .ref 1990000] Z (QW n Z F' b.toInt64) noX := by
  refine Tw_of' rfl rfl ?_
  show G Γ M_L_pass (rm M_L_pass) (Vt Γ M_L_pass (QW n Z F' b.toInt64) noX) (0, 0) 0 [some (.ref 800000), some (.int x0), some (.ref 1990000), none] [] Z
  have hJ := hH.2.2.2.2.2.1
  refine G_aload_n (pc := 0) dL_pass_0 rfl ?_
  refine G_iconst (pc := 1) (v := nI 0) dL_pass_1 (by first | rfl | decide) ?_
  refine G_aload_n (pc := 2) dL_pass_2 rfl ?_
  refine G_iload_n (pc := 3) dL_pass_3 rfl ?_
  refine K_V1 (pc := 4) (k' := (2, 12)) mok_X9_pass lk_L_32 (sh_k hH) rfl rfl rfl (aok0 rfl) dL_pass_4 (hop) rfl (fun v1 Y1 q1 => ?_) (fun E1 Y1 q1 => ?_)
  · obtain ⟨e1, e2, e3⟩ := q1; subst e1; have hH2 := SH_nx e3
    show G _ _ _ _ _ _ _ (_ :: _) _
    refine G_i2l (pc := 7) dL_pass_7 ?_
    refine G_last (pc := 8) (j := 0) hH2.2.2.2.2.2.1 rfl (by rw [hH2.2.2.2.2.2.2]; decide) (by omega) dL_pass_8 ?_
    refine G_goto (pc := 9) (tgt := 18) dL_pass_9 (by decide) ?_
    refine G_iconst (pc := 18) (v := nI 0) dL_pass_18 (by first | rfl | decide) ?_
    refine G_iret (pc := 19) VZ.x dL_pass_19 rfl ⟨by decide, by decide⟩ ?_
    refine ⟨0, by decide, rfl, e2, e3.sJ, fun _ => ?_⟩
    exact xJ_sJe
  · obtain ⟨i9, h1, h2, h3⟩ := q1
    rcases i9 with _ | _ | i9
    · have h1 : some xIA = some E1 := h1
      obtain rfl := Option.some.inj h1
      refine GX_catch [] _ _ rfl (fun z hz => absurd hz List.not_mem_nil) rfl (by decide) cl_L_13 ct_13 (hp := 12) (i := 3) (len := 1) rfl (Or.inl ⟨3, rfl, rfl, dL_pass_12⟩) (by decide) ?_
      refine G_iconst (pc := 13) (v := nI 1) dL_pass_13 (by first | rfl | decide) ?_
      refine G_iret (pc := 14) VZ.x dL_pass_14 rfl ⟨by decide, by decide⟩ ?_
      exact ⟨1, by decide, rfl, h2, h3, fun q => absurd q (by decide)⟩
    · have h1 : some xIS = some E1 := h1
      obtain rfl := Option.some.inj h1
      refine GX_catch [_] _ _ rfl (fun z hz => by rcases List.mem_cons.mp hz with rfl | hz; exact Or.inr ⟨by decide, _, cl_L_13, by decide⟩; exact absurd hz List.not_mem_nil) rfl (by decide) cl_L_21 ct_21 (hp := 15) (i := 3) (len := 1) rfl (Or.inl ⟨3, rfl, rfl, dL_pass_15⟩) (by decide) ?_
      refine G_iconst (pc := 16) (v := nI 2) dL_pass_16 (by first | rfl | decide) ?_
      refine G_iret (pc := 17) VZ.x dL_pass_17 rfl ⟨by decide, by decide⟩ ?_
      exact ⟨2, by decide, rfl, h2, h3, fun q => absurd q (by decide)⟩
    · exact absurd h1 (by simp)
theorem W_begin {Γ : GTy} {Z : HS} {n : Nat} {F' : FT} {b x0 x1 x2 x3 : Int32} (hH : SH Z) (hop : Tt Γ M_X9_begin [.ref 800000, .int x0, .int x1, .int x2, .int x3] Z (QVo n Z F' b) (QXo n Z F' [xIO, xIA, xIS])) : Tw Γ M_L_begin [.ref 800000, .int x0, .int x1, .int x2, .int x3, .ref 1990000] Z (QW n Z F' b.toInt64) noX := by
  refine Tw_of' rfl rfl ?_
  show G Γ M_L_begin (rm M_L_begin) (Vt Γ M_L_begin (QW n Z F' b.toInt64) noX) (0, 0) 0 [some (.ref 800000), some (.int x0), some (.int x1), some (.int x2), some (.int x3), some (.ref 1990000), none] [] Z
  have hJ := hH.2.2.2.2.2.1
  refine G_aload (pc := 0) dL_begin_0 rfl ?_
  refine G_iconst (pc := 2) (v := nI 0) dL_begin_2 (by first | rfl | decide) ?_
  refine G_aload_n (pc := 3) dL_begin_3 rfl ?_
  refine G_iload_n (pc := 4) dL_begin_4 rfl ?_
  refine G_iload_n (pc := 5) dL_begin_5 rfl ?_
  refine G_iload_n (pc := 6) dL_begin_6 rfl ?_
  refine G_iload (pc := 7) dL_begin_7 rfl ?_
  refine K_V4 (pc := 9) (k' := (10, 64)) mok_X9_begin lk_L_35 (sh_k hH) rfl rfl rfl (fun _ => ⟨rfl, aokL [800000, 1990000] (by intro r hr; exact hr) (by intro r hr; simp only [List.mem_cons, List.not_mem_nil, or_false] at hr; rcases hr with rfl | rfl; exact (by rw [sh_k hH]; decide); exact (by rw [hJ]; decide)), aokL [1990000] (by intro r hr; exact hr) (by intro r hr; rw [List.mem_singleton.mp hr]; exact (by rw [hJ]; decide))⟩) dL_begin_9 (hop) rfl (fun v1 Y1 q1 => ?_) (fun E1 Y1 q1 => ?_)
  · obtain ⟨e1, e2, e3⟩ := q1; subst e1; have hH2 := SH_nx e3
    show G _ _ _ _ _ _ _ (_ :: _) _
    refine G_i2l (pc := 12) dL_begin_12 ?_
    refine G_last (pc := 13) (j := 0) hH2.2.2.2.2.2.1 rfl (by rw [hH2.2.2.2.2.2.2]; decide) (by omega) dL_begin_13 ?_
    refine G_goto (pc := 14) (tgt := 29) dL_begin_14 (by decide) ?_
    refine G_iconst (pc := 29) (v := nI 0) dL_begin_29 (by first | rfl | decide) ?_
    refine G_iret (pc := 30) VZ.x dL_begin_30 rfl ⟨by decide, by decide⟩ ?_
    refine ⟨0, by decide, rfl, e2, e3.sJ, fun _ => ?_⟩
    exact xJ_sJe
  · obtain ⟨i9, h1, h2, h3⟩ := q1
    rcases i9 with _ | _ | _ | i9
    · have h1 : some xIO = some E1 := h1
      obtain rfl := Option.some.inj h1
      refine GX_catch [] _ _ rfl (fun z hz => absurd hz List.not_mem_nil) rfl (by decide) cl_L_19 ct_19 (hp := 17) (i := 6) (len := 2) rfl (Or.inr ⟨rfl, dL_begin_17⟩) (by decide) ?_
      refine G_iconst (pc := 19) (v := nI 1) dL_begin_19 (by first | rfl | decide) ?_
      refine G_iret (pc := 20) VZ.x dL_begin_20 rfl ⟨by decide, by decide⟩ ?_
      exact ⟨1, by decide, rfl, h2, h3, fun q => absurd q (by decide)⟩
    · have h1 : some xIA = some E1 := h1
      obtain rfl := Option.some.inj h1
      refine GX_catch [_] _ _ rfl (fun z hz => by rcases List.mem_cons.mp hz with rfl | hz; exact Or.inr ⟨by decide, _, cl_L_19, by decide⟩; exact absurd hz List.not_mem_nil) rfl (by decide) cl_L_13 ct_13 (hp := 21) (i := 6) (len := 2) rfl (Or.inr ⟨rfl, dL_begin_21⟩) (by decide) ?_
      refine G_iconst (pc := 23) (v := nI 2) dL_begin_23 (by first | rfl | decide) ?_
      refine G_iret (pc := 24) VZ.x dL_begin_24 rfl ⟨by decide, by decide⟩ ?_
      exact ⟨2, by decide, rfl, h2, h3, fun q => absurd q (by decide)⟩
    · have h1 : some xIS = some E1 := h1
      obtain rfl := Option.some.inj h1
      refine GX_catch [_, _] _ _ rfl (fun z hz => by rcases List.mem_cons.mp hz with rfl | hz; exact Or.inr ⟨by decide, _, cl_L_19, by decide⟩; rcases List.mem_cons.mp hz with rfl | hz; exact Or.inr ⟨by decide, _, cl_L_13, by decide⟩; exact absurd hz List.not_mem_nil) rfl (by decide) cl_L_21 ct_21 (hp := 25) (i := 6) (len := 2) rfl (Or.inr ⟨rfl, dL_begin_25⟩) (by decide) ?_
      refine G_iconst (pc := 27) (v := nI 3) dL_begin_27 (by first | rfl | decide) ?_
      refine G_iret (pc := 28) VZ.x dL_begin_28 rfl ⟨by decide, by decide⟩ ?_
      exact ⟨3, by decide, rfl, h2, h3, fun q => absurd q (by decide)⟩
    · exact absurd h1 (by simp)
theorem W_resume {Γ : GTy} {Z : HS} {n : Nat} {F' : FT} {b x0 x1 : Int32} (hH : SH Z) (hop : Tt Γ M_X9_resume [.ref 800000, .int x0, .int x1] Z (QVo n Z F' b) (QXo n Z F' [xIO, xIS])) : Tw Γ M_L_resume [.ref 800000, .int x0, .int x1, .ref 1990000] Z (QW n Z F' b.toInt64) noX := by
  refine Tw_of' rfl rfl ?_
  show G Γ M_L_resume (rm M_L_resume) (Vt Γ M_L_resume (QW n Z F' b.toInt64) noX) (0, 0) 0 [some (.ref 800000), some (.int x0), some (.int x1), some (.ref 1990000), none] [] Z
  have hJ := hH.2.2.2.2.2.1
  refine G_aload_n (pc := 0) dL_resume_0 rfl ?_
  refine G_iconst (pc := 1) (v := nI 0) dL_resume_1 (by first | rfl | decide) ?_
  refine G_aload_n (pc := 2) dL_resume_2 rfl ?_
  refine G_iload_n (pc := 3) dL_resume_3 rfl ?_
  refine G_iload_n (pc := 4) dL_resume_4 rfl ?_
  refine K_V2 (pc := 5) (k' := (6, 33)) mok_X9_resume lk_L_39 (sh_k hH) rfl rfl rfl (fun _ => ⟨rfl, aokL [800000, 1990000] (by intro r hr; exact hr) (by intro r hr; simp only [List.mem_cons, List.not_mem_nil, or_false] at hr; rcases hr with rfl | rfl; exact (by rw [sh_k hH]; decide); exact (by rw [hJ]; decide)), aokL [1990000] (by intro r hr; exact hr) (by intro r hr; rw [List.mem_singleton.mp hr]; exact (by rw [hJ]; decide))⟩) dL_resume_5 (hop) rfl (fun v1 Y1 q1 => ?_) (fun E1 Y1 q1 => ?_)
  · obtain ⟨e1, e2, e3⟩ := q1; subst e1; have hH2 := SH_nx e3
    show G _ _ _ _ _ _ _ (_ :: _) _
    refine G_i2l (pc := 8) dL_resume_8 ?_
    refine G_last (pc := 9) (j := 0) hH2.2.2.2.2.2.1 rfl (by rw [hH2.2.2.2.2.2.2]; decide) (by omega) dL_resume_9 ?_
    refine G_goto (pc := 10) (tgt := 21) dL_resume_10 (by decide) ?_
    refine G_iconst (pc := 21) (v := nI 0) dL_resume_21 (by first | rfl | decide) ?_
    refine G_iret (pc := 22) VZ.x dL_resume_22 rfl ⟨by decide, by decide⟩ ?_
    refine ⟨0, by decide, rfl, e2, e3.sJ, fun _ => ?_⟩
    exact xJ_sJe
  · obtain ⟨i9, h1, h2, h3⟩ := q1
    rcases i9 with _ | _ | i9
    · have h1 : some xIO = some E1 := h1
      obtain rfl := Option.some.inj h1
      refine GX_catch [] _ _ rfl (fun z hz => absurd hz List.not_mem_nil) rfl (by decide) cl_L_19 ct_19 (hp := 13) (i := 4) (len := 2) rfl (Or.inr ⟨rfl, dL_resume_13⟩) (by decide) ?_
      refine G_iconst (pc := 15) (v := nI 1) dL_resume_15 (by first | rfl | decide) ?_
      refine G_iret (pc := 16) VZ.x dL_resume_16 rfl ⟨by decide, by decide⟩ ?_
      exact ⟨1, by decide, rfl, h2, h3, fun q => absurd q (by decide)⟩
    · have h1 : some xIS = some E1 := h1
      obtain rfl := Option.some.inj h1
      refine GX_catch [_] _ _ rfl (fun z hz => by rcases List.mem_cons.mp hz with rfl | hz; exact Or.inr ⟨by decide, _, cl_L_19, by decide⟩; exact absurd hz List.not_mem_nil) rfl (by decide) cl_L_21 ct_21 (hp := 17) (i := 4) (len := 2) rfl (Or.inr ⟨rfl, dL_resume_17⟩) (by decide) ?_
      refine G_iconst (pc := 19) (v := nI 2) dL_resume_19 (by first | rfl | decide) ?_
      refine G_iret (pc := 20) VZ.x dL_resume_20 rfl ⟨by decide, by decide⟩ ?_
      exact ⟨2, by decide, rfl, h2, h3, fun q => absurd q (by decide)⟩
    · exact absurd h1 (by simp)
theorem W_shoot {Γ : GTy} {Z : HS} {n : Nat} {F' : FT} {b x0 x1 x2 : Int32} (hH : SH Z) (hop : Tt Γ M_X9_shoot [.ref 800000, .int x0, .int x1, .int x2] Z (QVo n Z F' b) (QXo n Z F' [xIO, xIA, xIS])) : Tw Γ M_L_shoot [.ref 800000, .int x0, .int x1, .int x2, .ref 1990000] Z (QW n Z F' b.toInt64) noX := by
  refine Tw_of' rfl rfl ?_
  show G Γ M_L_shoot (rm M_L_shoot) (Vt Γ M_L_shoot (QW n Z F' b.toInt64) noX) (0, 0) 0 [some (.ref 800000), some (.int x0), some (.int x1), some (.int x2), some (.ref 1990000), none] [] Z
  have hJ := hH.2.2.2.2.2.1
  refine G_aload (pc := 0) dL_shoot_0 rfl ?_
  refine G_iconst (pc := 2) (v := nI 0) dL_shoot_2 (by first | rfl | decide) ?_
  refine G_aload_n (pc := 3) dL_shoot_3 rfl ?_
  refine G_iload_n (pc := 4) dL_shoot_4 rfl ?_
  refine G_iload_n (pc := 5) dL_shoot_5 rfl ?_
  refine G_iload_n (pc := 6) dL_shoot_6 rfl ?_
  refine K_V3 (pc := 7) (k' := (4, 24)) mok_X9_shoot lk_L_42 (sh_k hH) rfl rfl rfl (aok0 rfl) dL_shoot_7 (hop) rfl (fun v1 Y1 q1 => ?_) (fun E1 Y1 q1 => ?_)
  · obtain ⟨e1, e2, e3⟩ := q1; subst e1; have hH2 := SH_nx e3
    show G _ _ _ _ _ _ _ (_ :: _) _
    refine G_i2l (pc := 10) dL_shoot_10 ?_
    refine G_last (pc := 11) (j := 0) hH2.2.2.2.2.2.1 rfl (by rw [hH2.2.2.2.2.2.2]; decide) (by omega) dL_shoot_11 ?_
    refine G_goto (pc := 12) (tgt := 27) dL_shoot_12 (by decide) ?_
    refine G_iconst (pc := 27) (v := nI 0) dL_shoot_27 (by first | rfl | decide) ?_
    refine G_iret (pc := 28) VZ.x dL_shoot_28 rfl ⟨by decide, by decide⟩ ?_
    refine ⟨0, by decide, rfl, e2, e3.sJ, fun _ => ?_⟩
    exact xJ_sJe
  · obtain ⟨i9, h1, h2, h3⟩ := q1
    rcases i9 with _ | _ | _ | i9
    · have h1 : some xIO = some E1 := h1
      obtain rfl := Option.some.inj h1
      refine GX_catch [] _ _ rfl (fun z hz => absurd hz List.not_mem_nil) rfl (by decide) cl_L_19 ct_19 (hp := 15) (i := 5) (len := 2) rfl (Or.inr ⟨rfl, dL_shoot_15⟩) (by decide) ?_
      refine G_iconst (pc := 17) (v := nI 1) dL_shoot_17 (by first | rfl | decide) ?_
      refine G_iret (pc := 18) VZ.x dL_shoot_18 rfl ⟨by decide, by decide⟩ ?_
      exact ⟨1, by decide, rfl, h2, h3, fun q => absurd q (by decide)⟩
    · have h1 : some xIA = some E1 := h1
      obtain rfl := Option.some.inj h1
      refine GX_catch [_] _ _ rfl (fun z hz => by rcases List.mem_cons.mp hz with rfl | hz; exact Or.inr ⟨by decide, _, cl_L_19, by decide⟩; exact absurd hz List.not_mem_nil) rfl (by decide) cl_L_13 ct_13 (hp := 19) (i := 5) (len := 2) rfl (Or.inr ⟨rfl, dL_shoot_19⟩) (by decide) ?_
      refine G_iconst (pc := 21) (v := nI 2) dL_shoot_21 (by first | rfl | decide) ?_
      refine G_iret (pc := 22) VZ.x dL_shoot_22 rfl ⟨by decide, by decide⟩ ?_
      exact ⟨2, by decide, rfl, h2, h3, fun q => absurd q (by decide)⟩
    · have h1 : some xIS = some E1 := h1
      obtain rfl := Option.some.inj h1
      refine GX_catch [_, _] _ _ rfl (fun z hz => by rcases List.mem_cons.mp hz with rfl | hz; exact Or.inr ⟨by decide, _, cl_L_19, by decide⟩; rcases List.mem_cons.mp hz with rfl | hz; exact Or.inr ⟨by decide, _, cl_L_13, by decide⟩; exact absurd hz List.not_mem_nil) rfl (by decide) cl_L_21 ct_21 (hp := 23) (i := 5) (len := 2) rfl (Or.inr ⟨rfl, dL_shoot_23⟩) (by decide) ?_
      refine G_iconst (pc := 25) (v := nI 3) dL_shoot_25 (by first | rfl | decide) ?_
      refine G_iret (pc := 26) VZ.x dL_shoot_26 rfl ⟨by decide, by decide⟩ ?_
      exact ⟨3, by decide, rfl, h2, h3, fun q => absurd q (by decide)⟩
    · exact absurd h1 (by simp)
theorem W_lend {Γ : GTy} {Z : HS} {n : Nat} {F' : FT} {b x0 x1 : Int32} (hH : SH Z) (hop : Tt Γ M_X9_lend [.ref 800000, .int x0, .int x1] Z (QVo n Z F' b) (QXo n Z F' [xIO, xIS])) : Tw Γ M_L_lend [.ref 800000, .int x0, .int x1, .ref 1990000] Z (QW n Z F' b.toInt64) noX := by
  refine Tw_of' rfl rfl ?_
  show G Γ M_L_lend (rm M_L_lend) (Vt Γ M_L_lend (QW n Z F' b.toInt64) noX) (0, 0) 0 [some (.ref 800000), some (.int x0), some (.int x1), some (.ref 1990000), none] [] Z
  have hJ := hH.2.2.2.2.2.1
  refine G_aload_n (pc := 0) dL_lend_0 rfl ?_
  refine G_iconst (pc := 1) (v := nI 0) dL_lend_1 (by first | rfl | decide) ?_
  refine G_aload_n (pc := 2) dL_lend_2 rfl ?_
  refine G_iload_n (pc := 3) dL_lend_3 rfl ?_
  refine G_iload_n (pc := 4) dL_lend_4 rfl ?_
  refine K_V2 (pc := 5) (k' := (4, 21)) mok_X9_lend lk_L_46 (sh_k hH) rfl rfl rfl (fun _ => ⟨rfl, aokL [800000, 1990000] (by intro r hr; exact hr) (by intro r hr; simp only [List.mem_cons, List.not_mem_nil, or_false] at hr; rcases hr with rfl | rfl; exact (by rw [sh_k hH]; decide); exact (by rw [hJ]; decide)), aokL [1990000] (by intro r hr; exact hr) (by intro r hr; rw [List.mem_singleton.mp hr]; exact (by rw [hJ]; decide))⟩) dL_lend_5 (hop) rfl (fun v1 Y1 q1 => ?_) (fun E1 Y1 q1 => ?_)
  · obtain ⟨e1, e2, e3⟩ := q1; subst e1; have hH2 := SH_nx e3
    show G _ _ _ _ _ _ _ (_ :: _) _
    refine G_i2l (pc := 8) dL_lend_8 ?_
    refine G_last (pc := 9) (j := 0) hH2.2.2.2.2.2.1 rfl (by rw [hH2.2.2.2.2.2.2]; decide) (by omega) dL_lend_9 ?_
    refine G_goto (pc := 10) (tgt := 21) dL_lend_10 (by decide) ?_
    refine G_iconst (pc := 21) (v := nI 0) dL_lend_21 (by first | rfl | decide) ?_
    refine G_iret (pc := 22) VZ.x dL_lend_22 rfl ⟨by decide, by decide⟩ ?_
    refine ⟨0, by decide, rfl, e2, e3.sJ, fun _ => ?_⟩
    exact xJ_sJe
  · obtain ⟨i9, h1, h2, h3⟩ := q1
    rcases i9 with _ | _ | i9
    · have h1 : some xIO = some E1 := h1
      obtain rfl := Option.some.inj h1
      refine GX_catch [] _ _ rfl (fun z hz => absurd hz List.not_mem_nil) rfl (by decide) cl_L_19 ct_19 (hp := 13) (i := 4) (len := 2) rfl (Or.inr ⟨rfl, dL_lend_13⟩) (by decide) ?_
      refine G_iconst (pc := 15) (v := nI 1) dL_lend_15 (by first | rfl | decide) ?_
      refine G_iret (pc := 16) VZ.x dL_lend_16 rfl ⟨by decide, by decide⟩ ?_
      exact ⟨1, by decide, rfl, h2, h3, fun q => absurd q (by decide)⟩
    · have h1 : some xIS = some E1 := h1
      obtain rfl := Option.some.inj h1
      refine GX_catch [_] _ _ rfl (fun z hz => by rcases List.mem_cons.mp hz with rfl | hz; exact Or.inr ⟨by decide, _, cl_L_19, by decide⟩; exact absurd hz List.not_mem_nil) rfl (by decide) cl_L_21 ct_21 (hp := 17) (i := 4) (len := 2) rfl (Or.inr ⟨rfl, dL_lend_17⟩) (by decide) ?_
      refine G_iconst (pc := 19) (v := nI 2) dL_lend_19 (by first | rfl | decide) ?_
      refine G_iret (pc := 20) VZ.x dL_lend_20 rfl ⟨by decide, by decide⟩ ?_
      exact ⟨2, by decide, rfl, h2, h3, fun q => absurd q (by decide)⟩
    · exact absurd h1 (by simp)
theorem W_takeBack {Γ : GTy} {Z : HS} {n : Nat} {F' : FT} {b x0 : Int32} (hH : SH Z) (hop : Tt Γ M_X9_takeBack [.ref 800000, .int x0] Z (QVo n Z F' b) (QXo n Z F' [xIO, xIS])) : Tw Γ M_L_takeBack [.ref 800000, .int x0, .ref 1990000] Z (QW n Z F' b.toInt64) noX := by
  refine Tw_of' rfl rfl ?_
  show G Γ M_L_takeBack (rm M_L_takeBack) (Vt Γ M_L_takeBack (QW n Z F' b.toInt64) noX) (0, 0) 0 [some (.ref 800000), some (.int x0), some (.ref 1990000), none] [] Z
  have hJ := hH.2.2.2.2.2.1
  refine G_aload_n (pc := 0) dL_takeBack_0 rfl ?_
  refine G_iconst (pc := 1) (v := nI 0) dL_takeBack_1 (by first | rfl | decide) ?_
  refine G_aload_n (pc := 2) dL_takeBack_2 rfl ?_
  refine G_iload_n (pc := 3) dL_takeBack_3 rfl ?_
  refine K_V1 (pc := 4) (k' := (2, 12)) mok_X9_takeBack lk_L_49 (sh_k hH) rfl rfl rfl (aok0 rfl) dL_takeBack_4 (hop) rfl (fun v1 Y1 q1 => ?_) (fun E1 Y1 q1 => ?_)
  · obtain ⟨e1, e2, e3⟩ := q1; subst e1; have hH2 := SH_nx e3
    show G _ _ _ _ _ _ _ (_ :: _) _
    refine G_i2l (pc := 7) dL_takeBack_7 ?_
    refine G_last (pc := 8) (j := 0) hH2.2.2.2.2.2.1 rfl (by rw [hH2.2.2.2.2.2.2]; decide) (by omega) dL_takeBack_8 ?_
    refine G_goto (pc := 9) (tgt := 18) dL_takeBack_9 (by decide) ?_
    refine G_iconst (pc := 18) (v := nI 0) dL_takeBack_18 (by first | rfl | decide) ?_
    refine G_iret (pc := 19) VZ.x dL_takeBack_19 rfl ⟨by decide, by decide⟩ ?_
    refine ⟨0, by decide, rfl, e2, e3.sJ, fun _ => ?_⟩
    exact xJ_sJe
  · obtain ⟨i9, h1, h2, h3⟩ := q1
    rcases i9 with _ | _ | i9
    · have h1 : some xIO = some E1 := h1
      obtain rfl := Option.some.inj h1
      refine GX_catch [] _ _ rfl (fun z hz => absurd hz List.not_mem_nil) rfl (by decide) cl_L_19 ct_19 (hp := 12) (i := 3) (len := 1) rfl (Or.inl ⟨3, rfl, rfl, dL_takeBack_12⟩) (by decide) ?_
      refine G_iconst (pc := 13) (v := nI 1) dL_takeBack_13 (by first | rfl | decide) ?_
      refine G_iret (pc := 14) VZ.x dL_takeBack_14 rfl ⟨by decide, by decide⟩ ?_
      exact ⟨1, by decide, rfl, h2, h3, fun q => absurd q (by decide)⟩
    · have h1 : some xIS = some E1 := h1
      obtain rfl := Option.some.inj h1
      refine GX_catch [_] _ _ rfl (fun z hz => by rcases List.mem_cons.mp hz with rfl | hz; exact Or.inr ⟨by decide, _, cl_L_19, by decide⟩; exact absurd hz List.not_mem_nil) rfl (by decide) cl_L_21 ct_21 (hp := 15) (i := 3) (len := 1) rfl (Or.inl ⟨3, rfl, rfl, dL_takeBack_15⟩) (by decide) ?_
      refine G_iconst (pc := 16) (v := nI 2) dL_takeBack_16 (by first | rfl | decide) ?_
      refine G_iret (pc := 17) VZ.x dL_takeBack_17 rfl ⟨by decide, by decide⟩ ?_
      exact ⟨2, by decide, rfl, h2, h3, fun q => absurd q (by decide)⟩
    · exact absurd h1 (by simp)
theorem W_tip {Γ : GTy} {Z : HS} {n : Nat} {F' : FT} {b x0 : Int32} (hH : SH Z) (hop : Tt Γ M_X9_tip [.ref 800000, .int x0] Z (QVo n Z F' b) (QXo n Z F' [xIO, xIS])) : Tw Γ M_L_tip [.ref 800000, .int x0, .ref 1990000] Z (QW n Z F' b.toInt64) noX := by
  refine Tw_of' rfl rfl ?_
  show G Γ M_L_tip (rm M_L_tip) (Vt Γ M_L_tip (QW n Z F' b.toInt64) noX) (0, 0) 0 [some (.ref 800000), some (.int x0), some (.ref 1990000), none] [] Z
  have hJ := hH.2.2.2.2.2.1
  refine G_aload_n (pc := 0) dL_tip_0 rfl ?_
  refine G_iconst (pc := 1) (v := nI 0) dL_tip_1 (by first | rfl | decide) ?_
  refine G_aload_n (pc := 2) dL_tip_2 rfl ?_
  refine G_iload_n (pc := 3) dL_tip_3 rfl ?_
  refine K_V1 (pc := 4) (k' := (2, 12)) mok_X9_tip lk_L_52 (sh_k hH) rfl rfl rfl (aok0 rfl) dL_tip_4 (hop) rfl (fun v1 Y1 q1 => ?_) (fun E1 Y1 q1 => ?_)
  · obtain ⟨e1, e2, e3⟩ := q1; subst e1; have hH2 := SH_nx e3
    show G _ _ _ _ _ _ _ (_ :: _) _
    refine G_i2l (pc := 7) dL_tip_7 ?_
    refine G_last (pc := 8) (j := 0) hH2.2.2.2.2.2.1 rfl (by rw [hH2.2.2.2.2.2.2]; decide) (by omega) dL_tip_8 ?_
    refine G_goto (pc := 9) (tgt := 18) dL_tip_9 (by decide) ?_
    refine G_iconst (pc := 18) (v := nI 0) dL_tip_18 (by first | rfl | decide) ?_
    refine G_iret (pc := 19) VZ.x dL_tip_19 rfl ⟨by decide, by decide⟩ ?_
    refine ⟨0, by decide, rfl, e2, e3.sJ, fun _ => ?_⟩
    exact xJ_sJe
  · obtain ⟨i9, h1, h2, h3⟩ := q1
    rcases i9 with _ | _ | i9
    · have h1 : some xIO = some E1 := h1
      obtain rfl := Option.some.inj h1
      refine GX_catch [] _ _ rfl (fun z hz => absurd hz List.not_mem_nil) rfl (by decide) cl_L_19 ct_19 (hp := 12) (i := 3) (len := 1) rfl (Or.inl ⟨3, rfl, rfl, dL_tip_12⟩) (by decide) ?_
      refine G_iconst (pc := 13) (v := nI 1) dL_tip_13 (by first | rfl | decide) ?_
      refine G_iret (pc := 14) VZ.x dL_tip_14 rfl ⟨by decide, by decide⟩ ?_
      exact ⟨1, by decide, rfl, h2, h3, fun q => absurd q (by decide)⟩
    · have h1 : some xIS = some E1 := h1
      obtain rfl := Option.some.inj h1
      refine GX_catch [_] _ _ rfl (fun z hz => by rcases List.mem_cons.mp hz with rfl | hz; exact Or.inr ⟨by decide, _, cl_L_19, by decide⟩; exact absurd hz List.not_mem_nil) rfl (by decide) cl_L_21 ct_21 (hp := 15) (i := 3) (len := 1) rfl (Or.inl ⟨3, rfl, rfl, dL_tip_15⟩) (by decide) ?_
      refine G_iconst (pc := 16) (v := nI 2) dL_tip_16 (by first | rfl | decide) ?_
      refine G_iret (pc := 17) VZ.x dL_tip_17 rfl ⟨by decide, by decide⟩ ?_
      exact ⟨2, by decide, rfl, h2, h3, fun q => absurd q (by decide)⟩
    · exact absurd h1 (by simp)
theorem W_isOpen {Γ : GTy} {Z : HS} {n : Nat} {F' : FT} {b x0 : Int32} (hH : SH Z) (hop : Tt Γ M_X9_isOpen [.ref 800000, .int x0] Z (QVo n Z F' b) (QXo n Z F' [xIO])) : Tw Γ M_L_isOpen [.ref 800000, .int x0, .ref 1990000] Z (QW n Z F' (if b = 0 then (0 : Int64) else 1)) noX := by
  refine Tw_of' rfl rfl ?_
  show G Γ M_L_isOpen (rm M_L_isOpen) (Vt Γ M_L_isOpen (QW n Z F' (if b = 0 then (0 : Int64) else 1)) noX) (0, 0) 0 [some (.ref 800000), some (.int x0), some (.ref 1990000), none] [] Z
  have hJ := hH.2.2.2.2.2.1
  refine G_aload_n (pc := 0) dL_isOpen_0 rfl ?_
  refine G_iconst (pc := 1) (v := nI 0) dL_isOpen_1 (by first | rfl | decide) ?_
  refine G_aload_n (pc := 2) dL_isOpen_2 rfl ?_
  refine G_iload_n (pc := 3) dL_isOpen_3 rfl ?_
  refine K_V1 (pc := 4) (k' := (1, 6)) mok_X9_isOpen lk_L_55 (sh_k hH) rfl rfl rfl (aok0 rfl) dL_isOpen_4 (hop) rfl (fun v1 Y1 q1 => ?_) (fun E1 Y1 q1 => ?_)
  · obtain ⟨e1, e2, e3⟩ := q1; subst e1; have hH2 := SH_nx e3
    show G _ _ _ _ _ _ _ (_ :: _) _
    refine G_if_eq (pc := 7) (tgt := 14) dL_isOpen_7 (by decide) (fun c7 => ?_) (fun c7 => ?_)
    · skip
      have ey : (if b = 0 then (0 : Int64) else 1) = 0 := if_pos c7
      refine G_lconst (pc := 14) (v := 0) dL_isOpen_14 (by first | rfl | decide) ?_
      refine G_last (pc := 15) (j := 0) hH2.2.2.2.2.2.1 rfl (by rw [hH2.2.2.2.2.2.2]; decide) (by omega) dL_isOpen_15 ?_
      refine G_goto (pc := 16) (tgt := 22) dL_isOpen_16 (by decide) ?_
      refine G_iconst (pc := 22) (v := nI 0) dL_isOpen_22 (by first | rfl | decide) ?_
      refine G_iret (pc := 23) VZ.x dL_isOpen_23 rfl ⟨by decide, by decide⟩ ?_
      refine ⟨0, by decide, rfl, e2, e3.sJ, fun _ => ?_⟩
      exact xJ_sJe.trans ey.symm
    · skip
      have ey : (if b = 0 then (0 : Int64) else 1) = 1 := if_neg c7
      refine G_lconst (pc := 10) (v := 1) dL_isOpen_10 (by first | rfl | decide) ?_
      refine G_goto (pc := 11) (tgt := 15) dL_isOpen_11 (by decide) ?_
      refine G_last (pc := 15) (j := 0) hH2.2.2.2.2.2.1 rfl (by rw [hH2.2.2.2.2.2.2]; decide) (by omega) dL_isOpen_15 ?_
      refine G_goto (pc := 16) (tgt := 22) dL_isOpen_16 (by decide) ?_
      refine G_iconst (pc := 22) (v := nI 0) dL_isOpen_22 (by first | rfl | decide) ?_
      refine G_iret (pc := 23) VZ.x dL_isOpen_23 rfl ⟨by decide, by decide⟩ ?_
      refine ⟨0, by decide, rfl, e2, e3.sJ, fun _ => ?_⟩
      exact xJ_sJe.trans ey.symm
  · obtain ⟨i9, h1, h2, h3⟩ := q1
    rcases i9 with _ | i9
    · have h1 : some xIO = some E1 := h1
      obtain rfl := Option.some.inj h1
      refine GX_catch [] _ _ rfl (fun z hz => absurd hz List.not_mem_nil) rfl (by decide) cl_L_19 ct_19 (hp := 19) (i := 3) (len := 1) rfl (Or.inl ⟨3, rfl, rfl, dL_isOpen_19⟩) (by decide) ?_
      refine G_iconst (pc := 20) (v := nI 1) dL_isOpen_20 (by first | rfl | decide) ?_
      refine G_iret (pc := 21) VZ.x dL_isOpen_21 rfl ⟨by decide, by decide⟩ ?_
      exact ⟨1, by decide, rfl, h2, h3, fun q => absurd q (by decide)⟩
    · exact absurd h1 (by simp)
theorem W_renter {Γ : GTy} {Z : HS} {n : Nat} {F' : FT} {b x0 : Int32} (hH : SH Z) (hop : Tt Γ M_X9_renter [.ref 800000, .int x0] Z (QVo n Z F' b) (QXo n Z F' [xIO])) : Tw Γ M_L_renter [.ref 800000, .int x0, .ref 1990000] Z (QW n Z F' b.toInt64) noX := by
  refine Tw_of' rfl rfl ?_
  show G Γ M_L_renter (rm M_L_renter) (Vt Γ M_L_renter (QW n Z F' b.toInt64) noX) (0, 0) 0 [some (.ref 800000), some (.int x0), some (.ref 1990000), none] [] Z
  have hJ := hH.2.2.2.2.2.1
  refine G_aload_n (pc := 0) dL_renter_0 rfl ?_
  refine G_iconst (pc := 1) (v := nI 0) dL_renter_1 (by first | rfl | decide) ?_
  refine G_aload_n (pc := 2) dL_renter_2 rfl ?_
  refine G_iload_n (pc := 3) dL_renter_3 rfl ?_
  refine K_V1 (pc := 4) (k' := (1, 6)) mok_X9_renter lk_L_59 (sh_k hH) rfl rfl rfl (aok0 rfl) dL_renter_4 (hop) rfl (fun v1 Y1 q1 => ?_) (fun E1 Y1 q1 => ?_)
  · obtain ⟨e1, e2, e3⟩ := q1; subst e1; have hH2 := SH_nx e3
    show G _ _ _ _ _ _ _ (_ :: _) _
    refine G_i2l (pc := 7) dL_renter_7 ?_
    refine G_last (pc := 8) (j := 0) hH2.2.2.2.2.2.1 rfl (by rw [hH2.2.2.2.2.2.2]; decide) (by omega) dL_renter_8 ?_
    refine G_goto (pc := 9) (tgt := 15) dL_renter_9 (by decide) ?_
    refine G_iconst (pc := 15) (v := nI 0) dL_renter_15 (by first | rfl | decide) ?_
    refine G_iret (pc := 16) VZ.x dL_renter_16 rfl ⟨by decide, by decide⟩ ?_
    refine ⟨0, by decide, rfl, e2, e3.sJ, fun _ => ?_⟩
    exact xJ_sJe
  · obtain ⟨i9, h1, h2, h3⟩ := q1
    rcases i9 with _ | i9
    · have h1 : some xIO = some E1 := h1
      obtain rfl := Option.some.inj h1
      refine GX_catch [] _ _ rfl (fun z hz => absurd hz List.not_mem_nil) rfl (by decide) cl_L_19 ct_19 (hp := 12) (i := 3) (len := 1) rfl (Or.inl ⟨3, rfl, rfl, dL_renter_12⟩) (by decide) ?_
      refine G_iconst (pc := 13) (v := nI 1) dL_renter_13 (by first | rfl | decide) ?_
      refine G_iret (pc := 14) VZ.x dL_renter_14 rfl ⟨by decide, by decide⟩ ?_
      exact ⟨1, by decide, rfl, h2, h3, fun q => absurd q (by decide)⟩
    · exact absurd h1 (by simp)
theorem W_clock {Γ : GTy} {Z : HS} {n : Nat} {F' : FT} {b x0 : Int32} (hH : SH Z) (hop : Tt Γ M_X9_clock [.ref 800000, .int x0] Z (QVo n Z F' b) (QXo n Z F' [xIO])) : Tw Γ M_L_clock [.ref 800000, .int x0, .ref 1990000] Z (QW n Z F' b.toInt64) noX := by
  refine Tw_of' rfl rfl ?_
  show G Γ M_L_clock (rm M_L_clock) (Vt Γ M_L_clock (QW n Z F' b.toInt64) noX) (0, 0) 0 [some (.ref 800000), some (.int x0), some (.ref 1990000), none] [] Z
  have hJ := hH.2.2.2.2.2.1
  refine G_aload_n (pc := 0) dL_clock_0 rfl ?_
  refine G_iconst (pc := 1) (v := nI 0) dL_clock_1 (by first | rfl | decide) ?_
  refine G_aload_n (pc := 2) dL_clock_2 rfl ?_
  refine G_iload_n (pc := 3) dL_clock_3 rfl ?_
  refine K_V1 (pc := 4) (k' := (1, 6)) mok_X9_clock lk_L_62 (sh_k hH) rfl rfl rfl (aok0 rfl) dL_clock_4 (hop) rfl (fun v1 Y1 q1 => ?_) (fun E1 Y1 q1 => ?_)
  · obtain ⟨e1, e2, e3⟩ := q1; subst e1; have hH2 := SH_nx e3
    show G _ _ _ _ _ _ _ (_ :: _) _
    refine G_i2l (pc := 7) dL_clock_7 ?_
    refine G_last (pc := 8) (j := 0) hH2.2.2.2.2.2.1 rfl (by rw [hH2.2.2.2.2.2.2]; decide) (by omega) dL_clock_8 ?_
    refine G_goto (pc := 9) (tgt := 15) dL_clock_9 (by decide) ?_
    refine G_iconst (pc := 15) (v := nI 0) dL_clock_15 (by first | rfl | decide) ?_
    refine G_iret (pc := 16) VZ.x dL_clock_16 rfl ⟨by decide, by decide⟩ ?_
    refine ⟨0, by decide, rfl, e2, e3.sJ, fun _ => ?_⟩
    exact xJ_sJe
  · obtain ⟨i9, h1, h2, h3⟩ := q1
    rcases i9 with _ | i9
    · have h1 : some xIO = some E1 := h1
      obtain rfl := Option.some.inj h1
      refine GX_catch [] _ _ rfl (fun z hz => absurd hz List.not_mem_nil) rfl (by decide) cl_L_19 ct_19 (hp := 12) (i := 3) (len := 1) rfl (Or.inl ⟨3, rfl, rfl, dL_clock_12⟩) (by decide) ?_
      refine G_iconst (pc := 13) (v := nI 1) dL_clock_13 (by first | rfl | decide) ?_
      refine G_iret (pc := 14) VZ.x dL_clock_14 rfl ⟨by decide, by decide⟩ ?_
      exact ⟨1, by decide, rfl, h2, h3, fun q => absurd q (by decide)⟩
    · exact absurd h1 (by simp)
theorem W_frameOn {Γ : GTy} {Z : HS} {n : Nat} {F' : FT} {b x0 : Int32} (hH : SH Z) (hop : Tt Γ M_X9_frameOn [.ref 800000, .int x0] Z (QVo n Z F' b) (QXo n Z F' [xIO])) : Tw Γ M_L_frameOn [.ref 800000, .int x0, .ref 1990000] Z (QW n Z F' b.toInt64) noX := by
  refine Tw_of' rfl rfl ?_
  show G Γ M_L_frameOn (rm M_L_frameOn) (Vt Γ M_L_frameOn (QW n Z F' b.toInt64) noX) (0, 0) 0 [some (.ref 800000), some (.int x0), some (.ref 1990000), none] [] Z
  have hJ := hH.2.2.2.2.2.1
  refine G_aload_n (pc := 0) dL_frameOn_0 rfl ?_
  refine G_iconst (pc := 1) (v := nI 0) dL_frameOn_1 (by first | rfl | decide) ?_
  refine G_aload_n (pc := 2) dL_frameOn_2 rfl ?_
  refine G_iload_n (pc := 3) dL_frameOn_3 rfl ?_
  refine K_V1 (pc := 4) (k' := (1, 6)) mok_X9_frameOn lk_L_65 (sh_k hH) rfl rfl rfl (aok0 rfl) dL_frameOn_4 (hop) rfl (fun v1 Y1 q1 => ?_) (fun E1 Y1 q1 => ?_)
  · obtain ⟨e1, e2, e3⟩ := q1; subst e1; have hH2 := SH_nx e3
    show G _ _ _ _ _ _ _ (_ :: _) _
    refine G_i2l (pc := 7) dL_frameOn_7 ?_
    refine G_last (pc := 8) (j := 0) hH2.2.2.2.2.2.1 rfl (by rw [hH2.2.2.2.2.2.2]; decide) (by omega) dL_frameOn_8 ?_
    refine G_goto (pc := 9) (tgt := 15) dL_frameOn_9 (by decide) ?_
    refine G_iconst (pc := 15) (v := nI 0) dL_frameOn_15 (by first | rfl | decide) ?_
    refine G_iret (pc := 16) VZ.x dL_frameOn_16 rfl ⟨by decide, by decide⟩ ?_
    refine ⟨0, by decide, rfl, e2, e3.sJ, fun _ => ?_⟩
    exact xJ_sJe
  · obtain ⟨i9, h1, h2, h3⟩ := q1
    rcases i9 with _ | i9
    · have h1 : some xIO = some E1 := h1
      obtain rfl := Option.some.inj h1
      refine GX_catch [] _ _ rfl (fun z hz => absurd hz List.not_mem_nil) rfl (by decide) cl_L_19 ct_19 (hp := 12) (i := 3) (len := 1) rfl (Or.inl ⟨3, rfl, rfl, dL_frameOn_12⟩) (by decide) ?_
      refine G_iconst (pc := 13) (v := nI 1) dL_frameOn_13 (by first | rfl | decide) ?_
      refine G_iret (pc := 14) VZ.x dL_frameOn_14 rfl ⟨by decide, by decide⟩ ?_
      exact ⟨1, by decide, rfl, h2, h3, fun q => absurd q (by decide)⟩
    · exact absurd h1 (by simp)
theorem W_owes {Γ : GTy} {Z : HS} {n : Nat} {F' : FT} {b x0 : Int32} (hH : SH Z) (hop : Tt Γ M_X9_owes [.ref 800000, .int x0] Z (QVo n Z F' b) (QXo n Z F' [xIO])) : Tw Γ M_L_owes [.ref 800000, .int x0, .ref 1990000] Z (QW n Z F' b.toInt64) noX := by
  refine Tw_of' rfl rfl ?_
  show G Γ M_L_owes (rm M_L_owes) (Vt Γ M_L_owes (QW n Z F' b.toInt64) noX) (0, 0) 0 [some (.ref 800000), some (.int x0), some (.ref 1990000), none] [] Z
  have hJ := hH.2.2.2.2.2.1
  refine G_aload_n (pc := 0) dL_owes_0 rfl ?_
  refine G_iconst (pc := 1) (v := nI 0) dL_owes_1 (by first | rfl | decide) ?_
  refine G_aload_n (pc := 2) dL_owes_2 rfl ?_
  refine G_iload_n (pc := 3) dL_owes_3 rfl ?_
  refine K_V1 (pc := 4) (k' := (1, 6)) mok_X9_owes lk_L_68 (sh_k hH) rfl rfl rfl (aok0 rfl) dL_owes_4 (hop) rfl (fun v1 Y1 q1 => ?_) (fun E1 Y1 q1 => ?_)
  · obtain ⟨e1, e2, e3⟩ := q1; subst e1; have hH2 := SH_nx e3
    show G _ _ _ _ _ _ _ (_ :: _) _
    refine G_i2l (pc := 7) dL_owes_7 ?_
    refine G_last (pc := 8) (j := 0) hH2.2.2.2.2.2.1 rfl (by rw [hH2.2.2.2.2.2.2]; decide) (by omega) dL_owes_8 ?_
    refine G_goto (pc := 9) (tgt := 15) dL_owes_9 (by decide) ?_
    refine G_iconst (pc := 15) (v := nI 0) dL_owes_15 (by first | rfl | decide) ?_
    refine G_iret (pc := 16) VZ.x dL_owes_16 rfl ⟨by decide, by decide⟩ ?_
    refine ⟨0, by decide, rfl, e2, e3.sJ, fun _ => ?_⟩
    exact xJ_sJe
  · obtain ⟨i9, h1, h2, h3⟩ := q1
    rcases i9 with _ | i9
    · have h1 : some xIO = some E1 := h1
      obtain rfl := Option.some.inj h1
      refine GX_catch [] _ _ rfl (fun z hz => absurd hz List.not_mem_nil) rfl (by decide) cl_L_19 ct_19 (hp := 12) (i := 3) (len := 1) rfl (Or.inl ⟨3, rfl, rfl, dL_owes_12⟩) (by decide) ?_
      refine G_iconst (pc := 13) (v := nI 1) dL_owes_13 (by first | rfl | decide) ?_
      refine G_iret (pc := 14) VZ.x dL_owes_14 rfl ⟨by decide, by decide⟩ ?_
      exact ⟨1, by decide, rfl, h2, h3, fun q => absurd q (by decide)⟩
    · exact absurd h1 (by simp)
theorem W_owesAnew {Γ : GTy} {Z : HS} {n : Nat} {F' : FT} {b x0 : Int32} (hH : SH Z) (hop : Tt Γ M_X9_owesAnew [.ref 800000, .int x0] Z (QVo n Z F' b) (QXo n Z F' [xIO])) : Tw Γ M_L_owesAnew [.ref 800000, .int x0, .ref 1990000] Z (QW n Z F' b.toInt64) noX := by
  refine Tw_of' rfl rfl ?_
  show G Γ M_L_owesAnew (rm M_L_owesAnew) (Vt Γ M_L_owesAnew (QW n Z F' b.toInt64) noX) (0, 0) 0 [some (.ref 800000), some (.int x0), some (.ref 1990000), none] [] Z
  have hJ := hH.2.2.2.2.2.1
  refine G_aload_n (pc := 0) dL_owesAnew_0 rfl ?_
  refine G_iconst (pc := 1) (v := nI 0) dL_owesAnew_1 (by first | rfl | decide) ?_
  refine G_aload_n (pc := 2) dL_owesAnew_2 rfl ?_
  refine G_iload_n (pc := 3) dL_owesAnew_3 rfl ?_
  refine K_V1 (pc := 4) (k' := (1, 6)) mok_X9_owesAnew lk_L_71 (sh_k hH) rfl rfl rfl (aok0 rfl) dL_owesAnew_4 (hop) rfl (fun v1 Y1 q1 => ?_) (fun E1 Y1 q1 => ?_)
  · obtain ⟨e1, e2, e3⟩ := q1; subst e1; have hH2 := SH_nx e3
    show G _ _ _ _ _ _ _ (_ :: _) _
    refine G_i2l (pc := 7) dL_owesAnew_7 ?_
    refine G_last (pc := 8) (j := 0) hH2.2.2.2.2.2.1 rfl (by rw [hH2.2.2.2.2.2.2]; decide) (by omega) dL_owesAnew_8 ?_
    refine G_goto (pc := 9) (tgt := 15) dL_owesAnew_9 (by decide) ?_
    refine G_iconst (pc := 15) (v := nI 0) dL_owesAnew_15 (by first | rfl | decide) ?_
    refine G_iret (pc := 16) VZ.x dL_owesAnew_16 rfl ⟨by decide, by decide⟩ ?_
    refine ⟨0, by decide, rfl, e2, e3.sJ, fun _ => ?_⟩
    exact xJ_sJe
  · obtain ⟨i9, h1, h2, h3⟩ := q1
    rcases i9 with _ | i9
    · have h1 : some xIO = some E1 := h1
      obtain rfl := Option.some.inj h1
      refine GX_catch [] _ _ rfl (fun z hz => absurd hz List.not_mem_nil) rfl (by decide) cl_L_19 ct_19 (hp := 12) (i := 3) (len := 1) rfl (Or.inl ⟨3, rfl, rfl, dL_owesAnew_12⟩) (by decide) ?_
      refine G_iconst (pc := 13) (v := nI 1) dL_owesAnew_13 (by first | rfl | decide) ?_
      refine G_iret (pc := 14) VZ.x dL_owesAnew_14 rfl ⟨by decide, by decide⟩ ?_
      exact ⟨1, by decide, rfl, h2, h3, fun q => absurd q (by decide)⟩
    · exact absurd h1 (by simp)
theorem W_state {Γ : GTy} {Z : HS} {n : Nat} {F' : FT} {b x0 : Int32} (hH : SH Z) (hop : Tt Γ M_X9_state [.ref 800000, .int x0] Z (QVo n Z F' b) (QXo n Z F' [xIO])) : Tw Γ M_L_state [.ref 800000, .int x0, .ref 1990000] Z (QW n Z F' b.toInt64) noX := by
  refine Tw_of' rfl rfl ?_
  show G Γ M_L_state (rm M_L_state) (Vt Γ M_L_state (QW n Z F' b.toInt64) noX) (0, 0) 0 [some (.ref 800000), some (.int x0), some (.ref 1990000), none] [] Z
  have hJ := hH.2.2.2.2.2.1
  refine G_aload_n (pc := 0) dL_state_0 rfl ?_
  refine G_iconst (pc := 1) (v := nI 0) dL_state_1 (by first | rfl | decide) ?_
  refine G_aload_n (pc := 2) dL_state_2 rfl ?_
  refine G_iload_n (pc := 3) dL_state_3 rfl ?_
  refine K_V1 (pc := 4) (k' := (1, 6)) mok_X9_state lk_L_74 (sh_k hH) rfl rfl rfl (aok0 rfl) dL_state_4 (hop) rfl (fun v1 Y1 q1 => ?_) (fun E1 Y1 q1 => ?_)
  · obtain ⟨e1, e2, e3⟩ := q1; subst e1; have hH2 := SH_nx e3
    show G _ _ _ _ _ _ _ (_ :: _) _
    refine G_i2l (pc := 7) dL_state_7 ?_
    refine G_last (pc := 8) (j := 0) hH2.2.2.2.2.2.1 rfl (by rw [hH2.2.2.2.2.2.2]; decide) (by omega) dL_state_8 ?_
    refine G_goto (pc := 9) (tgt := 15) dL_state_9 (by decide) ?_
    refine G_iconst (pc := 15) (v := nI 0) dL_state_15 (by first | rfl | decide) ?_
    refine G_iret (pc := 16) VZ.x dL_state_16 rfl ⟨by decide, by decide⟩ ?_
    refine ⟨0, by decide, rfl, e2, e3.sJ, fun _ => ?_⟩
    exact xJ_sJe
  · obtain ⟨i9, h1, h2, h3⟩ := q1
    rcases i9 with _ | i9
    · have h1 : some xIO = some E1 := h1
      obtain rfl := Option.some.inj h1
      refine GX_catch [] _ _ rfl (fun z hz => absurd hz List.not_mem_nil) rfl (by decide) cl_L_19 ct_19 (hp := 12) (i := 3) (len := 1) rfl (Or.inl ⟨3, rfl, rfl, dL_state_12⟩) (by decide) ?_
      refine G_iconst (pc := 13) (v := nI 1) dL_state_13 (by first | rfl | decide) ?_
      refine G_iret (pc := 14) VZ.x dL_state_14 rfl ⟨by decide, by decide⟩ ?_
      exact ⟨1, by decide, rfl, h2, h3, fun q => absurd q (by decide)⟩
    · exact absurd h1 (by simp)
theorem W_ballOn {Γ : GTy} {Z : HS} {n : Nat} {F' : FT} {b x0 : Int32} (hH : SH Z) (hop : Tt Γ M_X9_ballOn [.ref 800000, .int x0] Z (QVo n Z F' b) (QXo n Z F' [xIO])) : Tw Γ M_L_ballOn [.ref 800000, .int x0, .ref 1990000] Z (QW n Z F' b.toInt64) noX := by
  refine Tw_of' rfl rfl ?_
  show G Γ M_L_ballOn (rm M_L_ballOn) (Vt Γ M_L_ballOn (QW n Z F' b.toInt64) noX) (0, 0) 0 [some (.ref 800000), some (.int x0), some (.ref 1990000), none] [] Z
  have hJ := hH.2.2.2.2.2.1
  refine G_aload_n (pc := 0) dL_ballOn_0 rfl ?_
  refine G_iconst (pc := 1) (v := nI 0) dL_ballOn_1 (by first | rfl | decide) ?_
  refine G_aload_n (pc := 2) dL_ballOn_2 rfl ?_
  refine G_iload_n (pc := 3) dL_ballOn_3 rfl ?_
  refine K_V1 (pc := 4) (k' := (1, 6)) mok_X9_ballOn lk_L_80 (sh_k hH) rfl rfl rfl (aok0 rfl) dL_ballOn_4 (hop) rfl (fun v1 Y1 q1 => ?_) (fun E1 Y1 q1 => ?_)
  · obtain ⟨e1, e2, e3⟩ := q1; subst e1; have hH2 := SH_nx e3
    show G _ _ _ _ _ _ _ (_ :: _) _
    refine G_i2l (pc := 7) dL_ballOn_7 ?_
    refine G_last (pc := 8) (j := 0) hH2.2.2.2.2.2.1 rfl (by rw [hH2.2.2.2.2.2.2]; decide) (by omega) dL_ballOn_8 ?_
    refine G_goto (pc := 9) (tgt := 15) dL_ballOn_9 (by decide) ?_
    refine G_iconst (pc := 15) (v := nI 0) dL_ballOn_15 (by first | rfl | decide) ?_
    refine G_iret (pc := 16) VZ.x dL_ballOn_16 rfl ⟨by decide, by decide⟩ ?_
    refine ⟨0, by decide, rfl, e2, e3.sJ, fun _ => ?_⟩
    exact xJ_sJe
  · obtain ⟨i9, h1, h2, h3⟩ := q1
    rcases i9 with _ | i9
    · have h1 : some xIO = some E1 := h1
      obtain rfl := Option.some.inj h1
      refine GX_catch [] _ _ rfl (fun z hz => absurd hz List.not_mem_nil) rfl (by decide) cl_L_19 ct_19 (hp := 12) (i := 3) (len := 1) rfl (Or.inl ⟨3, rfl, rfl, dL_ballOn_12⟩) (by decide) ?_
      refine G_iconst (pc := 13) (v := nI 1) dL_ballOn_13 (by first | rfl | decide) ?_
      refine G_iret (pc := 14) VZ.x dL_ballOn_14 rfl ⟨by decide, by decide⟩ ?_
      exact ⟨1, by decide, rfl, h2, h3, fun q => absurd q (by decide)⟩
    · exact absurd h1 (by simp)
theorem W_isFree {Γ : GTy} {Z : HS} {n : Nat} {F' : FT} {b x0 : Int32} (hH : SH Z) (hop : Tt Γ M_X9_isFree [.ref 800000, .int x0] Z (QVo n Z F' b) (QXo n Z F' [xIO])) : Tw Γ M_L_isFree [.ref 800000, .int x0, .ref 1990000] Z (QW n Z F' (if b = 0 then (0 : Int64) else 1)) noX := by
  refine Tw_of' rfl rfl ?_
  show G Γ M_L_isFree (rm M_L_isFree) (Vt Γ M_L_isFree (QW n Z F' (if b = 0 then (0 : Int64) else 1)) noX) (0, 0) 0 [some (.ref 800000), some (.int x0), some (.ref 1990000), none] [] Z
  have hJ := hH.2.2.2.2.2.1
  refine G_aload_n (pc := 0) dL_isFree_0 rfl ?_
  refine G_iconst (pc := 1) (v := nI 0) dL_isFree_1 (by first | rfl | decide) ?_
  refine G_aload_n (pc := 2) dL_isFree_2 rfl ?_
  refine G_iload_n (pc := 3) dL_isFree_3 rfl ?_
  refine K_V1 (pc := 4) (k' := (1, 6)) mok_X9_isFree lk_L_83 (sh_k hH) rfl rfl rfl (aok0 rfl) dL_isFree_4 (hop) rfl (fun v1 Y1 q1 => ?_) (fun E1 Y1 q1 => ?_)
  · obtain ⟨e1, e2, e3⟩ := q1; subst e1; have hH2 := SH_nx e3
    show G _ _ _ _ _ _ _ (_ :: _) _
    refine G_if_eq (pc := 7) (tgt := 14) dL_isFree_7 (by decide) (fun c7 => ?_) (fun c7 => ?_)
    · skip
      have ey : (if b = 0 then (0 : Int64) else 1) = 0 := if_pos c7
      refine G_lconst (pc := 14) (v := 0) dL_isFree_14 (by first | rfl | decide) ?_
      refine G_last (pc := 15) (j := 0) hH2.2.2.2.2.2.1 rfl (by rw [hH2.2.2.2.2.2.2]; decide) (by omega) dL_isFree_15 ?_
      refine G_goto (pc := 16) (tgt := 22) dL_isFree_16 (by decide) ?_
      refine G_iconst (pc := 22) (v := nI 0) dL_isFree_22 (by first | rfl | decide) ?_
      refine G_iret (pc := 23) VZ.x dL_isFree_23 rfl ⟨by decide, by decide⟩ ?_
      refine ⟨0, by decide, rfl, e2, e3.sJ, fun _ => ?_⟩
      exact xJ_sJe.trans ey.symm
    · skip
      have ey : (if b = 0 then (0 : Int64) else 1) = 1 := if_neg c7
      refine G_lconst (pc := 10) (v := 1) dL_isFree_10 (by first | rfl | decide) ?_
      refine G_goto (pc := 11) (tgt := 15) dL_isFree_11 (by decide) ?_
      refine G_last (pc := 15) (j := 0) hH2.2.2.2.2.2.1 rfl (by rw [hH2.2.2.2.2.2.2]; decide) (by omega) dL_isFree_15 ?_
      refine G_goto (pc := 16) (tgt := 22) dL_isFree_16 (by decide) ?_
      refine G_iconst (pc := 22) (v := nI 0) dL_isFree_22 (by first | rfl | decide) ?_
      refine G_iret (pc := 23) VZ.x dL_isFree_23 rfl ⟨by decide, by decide⟩ ?_
      refine ⟨0, by decide, rfl, e2, e3.sJ, fun _ => ?_⟩
      exact xJ_sJe.trans ey.symm
  · obtain ⟨i9, h1, h2, h3⟩ := q1
    rcases i9 with _ | i9
    · have h1 : some xIO = some E1 := h1
      obtain rfl := Option.some.inj h1
      refine GX_catch [] _ _ rfl (fun z hz => absurd hz List.not_mem_nil) rfl (by decide) cl_L_19 ct_19 (hp := 19) (i := 3) (len := 1) rfl (Or.inl ⟨3, rfl, rfl, dL_isFree_19⟩) (by decide) ?_
      refine G_iconst (pc := 20) (v := nI 1) dL_isFree_20 (by first | rfl | decide) ?_
      refine G_iret (pc := 21) VZ.x dL_isFree_21 rfl ⟨by decide, by decide⟩ ?_
      exact ⟨1, by decide, rfl, h2, h3, fun q => absurd q (by decide)⟩
    · exact absurd h1 (by simp)
theorem W_turn {Γ : GTy} {Z : HS} {n : Nat} {F' : FT} {b x0 : Int32} (hH : SH Z) (hop : Tt Γ M_X9_turn [.ref 800000, .int x0] Z (QVo n Z F' b) (QXo n Z F' [xIO])) : Tw Γ M_L_turn [.ref 800000, .int x0, .ref 1990000] Z (QW n Z F' b.toInt64) noX := by
  refine Tw_of' rfl rfl ?_
  show G Γ M_L_turn (rm M_L_turn) (Vt Γ M_L_turn (QW n Z F' b.toInt64) noX) (0, 0) 0 [some (.ref 800000), some (.int x0), some (.ref 1990000), none] [] Z
  have hJ := hH.2.2.2.2.2.1
  refine G_aload_n (pc := 0) dL_turn_0 rfl ?_
  refine G_iconst (pc := 1) (v := nI 0) dL_turn_1 (by first | rfl | decide) ?_
  refine G_aload_n (pc := 2) dL_turn_2 rfl ?_
  refine G_iload_n (pc := 3) dL_turn_3 rfl ?_
  refine K_V1 (pc := 4) (k' := (1, 6)) mok_X9_turn lk_L_86 (sh_k hH) rfl rfl rfl (aok0 rfl) dL_turn_4 (hop) rfl (fun v1 Y1 q1 => ?_) (fun E1 Y1 q1 => ?_)
  · obtain ⟨e1, e2, e3⟩ := q1; subst e1; have hH2 := SH_nx e3
    show G _ _ _ _ _ _ _ (_ :: _) _
    refine G_i2l (pc := 7) dL_turn_7 ?_
    refine G_last (pc := 8) (j := 0) hH2.2.2.2.2.2.1 rfl (by rw [hH2.2.2.2.2.2.2]; decide) (by omega) dL_turn_8 ?_
    refine G_goto (pc := 9) (tgt := 15) dL_turn_9 (by decide) ?_
    refine G_iconst (pc := 15) (v := nI 0) dL_turn_15 (by first | rfl | decide) ?_
    refine G_iret (pc := 16) VZ.x dL_turn_16 rfl ⟨by decide, by decide⟩ ?_
    refine ⟨0, by decide, rfl, e2, e3.sJ, fun _ => ?_⟩
    exact xJ_sJe
  · obtain ⟨i9, h1, h2, h3⟩ := q1
    rcases i9 with _ | i9
    · have h1 : some xIO = some E1 := h1
      obtain rfl := Option.some.inj h1
      refine GX_catch [] _ _ rfl (fun z hz => absurd hz List.not_mem_nil) rfl (by decide) cl_L_19 ct_19 (hp := 12) (i := 3) (len := 1) rfl (Or.inl ⟨3, rfl, rfl, dL_turn_12⟩) (by decide) ?_
      refine G_iconst (pc := 13) (v := nI 1) dL_turn_13 (by first | rfl | decide) ?_
      refine G_iret (pc := 14) VZ.x dL_turn_14 rfl ⟨by decide, by decide⟩ ?_
      exact ⟨1, by decide, rfl, h2, h3, fun q => absurd q (by decide)⟩
    · exact absurd h1 (by simp)
theorem W_points {Γ : GTy} {Z : HS} {n : Nat} {F' : FT} {b x0 x1 : Int32} (hH : SH Z) (hop : Tt Γ M_X9_points [.ref 800000, .int x0, .int x1] Z (QVo n Z F' b) (QXo n Z F' [xIO])) : Tw Γ M_L_points [.ref 800000, .int x0, .int x1, .ref 1990000] Z (QW n Z F' b.toInt64) noX := by
  refine Tw_of' rfl rfl ?_
  show G Γ M_L_points (rm M_L_points) (Vt Γ M_L_points (QW n Z F' b.toInt64) noX) (0, 0) 0 [some (.ref 800000), some (.int x0), some (.int x1), some (.ref 1990000), none] [] Z
  have hJ := hH.2.2.2.2.2.1
  refine G_aload_n (pc := 0) dL_points_0 rfl ?_
  refine G_iconst (pc := 1) (v := nI 0) dL_points_1 (by first | rfl | decide) ?_
  refine G_aload_n (pc := 2) dL_points_2 rfl ?_
  refine G_iload_n (pc := 3) dL_points_3 rfl ?_
  refine G_iload_n (pc := 4) dL_points_4 rfl ?_
  refine K_V2 (pc := 5) (k' := (1, 6)) mok_X9_points lk_L_89 (sh_k hH) rfl rfl rfl (aok0 rfl) dL_points_5 (hop) rfl (fun v1 Y1 q1 => ?_) (fun E1 Y1 q1 => ?_)
  · obtain ⟨e1, e2, e3⟩ := q1; subst e1; have hH2 := SH_nx e3
    show G _ _ _ _ _ _ _ (_ :: _) _
    refine G_i2l (pc := 8) dL_points_8 ?_
    refine G_last (pc := 9) (j := 0) hH2.2.2.2.2.2.1 rfl (by rw [hH2.2.2.2.2.2.2]; decide) (by omega) dL_points_9 ?_
    refine G_goto (pc := 10) (tgt := 17) dL_points_10 (by decide) ?_
    refine G_iconst (pc := 17) (v := nI 0) dL_points_17 (by first | rfl | decide) ?_
    refine G_iret (pc := 18) VZ.x dL_points_18 rfl ⟨by decide, by decide⟩ ?_
    refine ⟨0, by decide, rfl, e2, e3.sJ, fun _ => ?_⟩
    exact xJ_sJe
  · obtain ⟨i9, h1, h2, h3⟩ := q1
    rcases i9 with _ | i9
    · have h1 : some xIO = some E1 := h1
      obtain rfl := Option.some.inj h1
      refine GX_catch [] _ _ rfl (fun z hz => absurd hz List.not_mem_nil) rfl (by decide) cl_L_19 ct_19 (hp := 13) (i := 4) (len := 2) rfl (Or.inr ⟨rfl, dL_points_13⟩) (by decide) ?_
      refine G_iconst (pc := 15) (v := nI 1) dL_points_15 (by first | rfl | decide) ?_
      refine G_iret (pc := 16) VZ.x dL_points_16 rfl ⟨by decide, by decide⟩ ?_
      exact ⟨1, by decide, rfl, h2, h3, fun q => absurd q (by decide)⟩
    · exact absurd h1 (by simp)
theorem W_winner {Γ : GTy} {Z : HS} {n : Nat} {F' : FT} {b x0 : Int32} (hH : SH Z) (hop : Tt Γ M_X9_winner [.ref 800000, .int x0] Z (QVo n Z F' b) (QXo n Z F' [xIO])) : Tw Γ M_L_winner [.ref 800000, .int x0, .ref 1990000] Z (QW n Z F' b.toInt64) noX := by
  refine Tw_of' rfl rfl ?_
  show G Γ M_L_winner (rm M_L_winner) (Vt Γ M_L_winner (QW n Z F' b.toInt64) noX) (0, 0) 0 [some (.ref 800000), some (.int x0), some (.ref 1990000), none] [] Z
  have hJ := hH.2.2.2.2.2.1
  refine G_aload_n (pc := 0) dL_winner_0 rfl ?_
  refine G_iconst (pc := 1) (v := nI 0) dL_winner_1 (by first | rfl | decide) ?_
  refine G_aload_n (pc := 2) dL_winner_2 rfl ?_
  refine G_iload_n (pc := 3) dL_winner_3 rfl ?_
  refine K_V1 (pc := 4) (k' := (1, 6)) mok_X9_winner lk_L_93 (sh_k hH) rfl rfl rfl (aok0 rfl) dL_winner_4 (hop) rfl (fun v1 Y1 q1 => ?_) (fun E1 Y1 q1 => ?_)
  · obtain ⟨e1, e2, e3⟩ := q1; subst e1; have hH2 := SH_nx e3
    show G _ _ _ _ _ _ _ (_ :: _) _
    refine G_i2l (pc := 7) dL_winner_7 ?_
    refine G_last (pc := 8) (j := 0) hH2.2.2.2.2.2.1 rfl (by rw [hH2.2.2.2.2.2.2]; decide) (by omega) dL_winner_8 ?_
    refine G_goto (pc := 9) (tgt := 15) dL_winner_9 (by decide) ?_
    refine G_iconst (pc := 15) (v := nI 0) dL_winner_15 (by first | rfl | decide) ?_
    refine G_iret (pc := 16) VZ.x dL_winner_16 rfl ⟨by decide, by decide⟩ ?_
    refine ⟨0, by decide, rfl, e2, e3.sJ, fun _ => ?_⟩
    exact xJ_sJe
  · obtain ⟨i9, h1, h2, h3⟩ := q1
    rcases i9 with _ | i9
    · have h1 : some xIO = some E1 := h1
      obtain rfl := Option.some.inj h1
      refine GX_catch [] _ _ rfl (fun z hz => absurd hz List.not_mem_nil) rfl (by decide) cl_L_19 ct_19 (hp := 12) (i := 3) (len := 1) rfl (Or.inl ⟨3, rfl, rfl, dL_winner_12⟩) (by decide) ?_
      refine G_iconst (pc := 13) (v := nI 1) dL_winner_13 (by first | rfl | decide) ?_
      refine G_iret (pc := 14) VZ.x dL_winner_14 rfl ⟨by decide, by decide⟩ ?_
      exact ⟨1, by decide, rfl, h2, h3, fun q => absurd q (by decide)⟩
    · exact absurd h1 (by simp)
theorem W_contacts {Γ : GTy} {Z : HS} {n : Nat} {F' : FT} {b x0 x1 x2 : Int32} (hH : SH Z) (hop : Tt Γ M_X9_contacts [.ref 800000, .int x0, .int x1, .int x2] Z (QVo n Z F' b) (QXo n Z F' [xIO, xIA])) : Tw Γ M_L_contacts [.ref 800000, .int x0, .int x1, .int x2, .ref 1990000] Z (QW n Z F' b.toInt64) noX := by
  refine Tw_of' rfl rfl ?_
  show G Γ M_L_contacts (rm M_L_contacts) (Vt Γ M_L_contacts (QW n Z F' b.toInt64) noX) (0, 0) 0 [some (.ref 800000), some (.int x0), some (.int x1), some (.int x2), some (.ref 1990000), none] [] Z
  have hJ := hH.2.2.2.2.2.1
  refine G_aload (pc := 0) dL_contacts_0 rfl ?_
  refine G_iconst (pc := 2) (v := nI 0) dL_contacts_2 (by first | rfl | decide) ?_
  refine G_aload_n (pc := 3) dL_contacts_3 rfl ?_
  refine G_iload_n (pc := 4) dL_contacts_4 rfl ?_
  refine G_iload_n (pc := 5) dL_contacts_5 rfl ?_
  refine G_iload_n (pc := 6) dL_contacts_6 rfl ?_
  refine K_V3 (pc := 7) (k' := (3, 18)) mok_X9_contacts lk_L_96 (sh_k hH) rfl rfl rfl (aok0 rfl) dL_contacts_7 (hop) rfl (fun v1 Y1 q1 => ?_) (fun E1 Y1 q1 => ?_)
  · obtain ⟨e1, e2, e3⟩ := q1; subst e1; have hH2 := SH_nx e3
    show G _ _ _ _ _ _ _ (_ :: _) _
    refine G_i2l (pc := 10) dL_contacts_10 ?_
    refine G_last (pc := 11) (j := 0) hH2.2.2.2.2.2.1 rfl (by rw [hH2.2.2.2.2.2.2]; decide) (by omega) dL_contacts_11 ?_
    refine G_goto (pc := 12) (tgt := 23) dL_contacts_12 (by decide) ?_
    refine G_iconst (pc := 23) (v := nI 0) dL_contacts_23 (by first | rfl | decide) ?_
    refine G_iret (pc := 24) VZ.x dL_contacts_24 rfl ⟨by decide, by decide⟩ ?_
    refine ⟨0, by decide, rfl, e2, e3.sJ, fun _ => ?_⟩
    exact xJ_sJe
  · obtain ⟨i9, h1, h2, h3⟩ := q1
    rcases i9 with _ | _ | i9
    · have h1 : some xIO = some E1 := h1
      obtain rfl := Option.some.inj h1
      refine GX_catch [] _ _ rfl (fun z hz => absurd hz List.not_mem_nil) rfl (by decide) cl_L_19 ct_19 (hp := 15) (i := 5) (len := 2) rfl (Or.inr ⟨rfl, dL_contacts_15⟩) (by decide) ?_
      refine G_iconst (pc := 17) (v := nI 1) dL_contacts_17 (by first | rfl | decide) ?_
      refine G_iret (pc := 18) VZ.x dL_contacts_18 rfl ⟨by decide, by decide⟩ ?_
      exact ⟨1, by decide, rfl, h2, h3, fun q => absurd q (by decide)⟩
    · have h1 : some xIA = some E1 := h1
      obtain rfl := Option.some.inj h1
      refine GX_catch [_] _ _ rfl (fun z hz => by rcases List.mem_cons.mp hz with rfl | hz; exact Or.inr ⟨by decide, _, cl_L_19, by decide⟩; exact absurd hz List.not_mem_nil) rfl (by decide) cl_L_13 ct_13 (hp := 19) (i := 5) (len := 2) rfl (Or.inr ⟨rfl, dL_contacts_19⟩) (by decide) ?_
      refine G_iconst (pc := 21) (v := nI 2) dL_contacts_21 (by first | rfl | decide) ?_
      refine G_iret (pc := 22) VZ.x dL_contacts_22 rfl ⟨by decide, by decide⟩ ?_
      exact ⟨2, by decide, rfl, h2, h3, fun q => absurd q (by decide)⟩
    · exact absurd h1 (by simp)
theorem W_contactsByPairs {Γ : GTy} {Z : HS} {n : Nat} {F' : FT} {b x0 x1 x2 : Int32} (hH : SH Z) (hop : Tt Γ M_X9_contactsByPairs [.ref 800000, .int x0, .int x1, .int x2] Z (QVo n Z F' b) (QXo n Z F' [xIO, xIA])) : Tw Γ M_L_contactsByPairs [.ref 800000, .int x0, .int x1, .int x2, .ref 1990000] Z (QW n Z F' b.toInt64) noX := by
  refine Tw_of' rfl rfl ?_
  show G Γ M_L_contactsByPairs (rm M_L_contactsByPairs) (Vt Γ M_L_contactsByPairs (QW n Z F' b.toInt64) noX) (0, 0) 0 [some (.ref 800000), some (.int x0), some (.int x1), some (.int x2), some (.ref 1990000), none] [] Z
  have hJ := hH.2.2.2.2.2.1
  refine G_aload (pc := 0) dL_contactsByPairs_0 rfl ?_
  refine G_iconst (pc := 2) (v := nI 0) dL_contactsByPairs_2 (by first | rfl | decide) ?_
  refine G_aload_n (pc := 3) dL_contactsByPairs_3 rfl ?_
  refine G_iload_n (pc := 4) dL_contactsByPairs_4 rfl ?_
  refine G_iload_n (pc := 5) dL_contactsByPairs_5 rfl ?_
  refine G_iload_n (pc := 6) dL_contactsByPairs_6 rfl ?_
  refine K_V3 (pc := 7) (k' := (3, 18)) mok_X9_contactsByPairs lk_L_99 (sh_k hH) rfl rfl rfl (aok0 rfl) dL_contactsByPairs_7 (hop) rfl (fun v1 Y1 q1 => ?_) (fun E1 Y1 q1 => ?_)
  · obtain ⟨e1, e2, e3⟩ := q1; subst e1; have hH2 := SH_nx e3
    show G _ _ _ _ _ _ _ (_ :: _) _
    refine G_i2l (pc := 10) dL_contactsByPairs_10 ?_
    refine G_last (pc := 11) (j := 0) hH2.2.2.2.2.2.1 rfl (by rw [hH2.2.2.2.2.2.2]; decide) (by omega) dL_contactsByPairs_11 ?_
    refine G_goto (pc := 12) (tgt := 23) dL_contactsByPairs_12 (by decide) ?_
    refine G_iconst (pc := 23) (v := nI 0) dL_contactsByPairs_23 (by first | rfl | decide) ?_
    refine G_iret (pc := 24) VZ.x dL_contactsByPairs_24 rfl ⟨by decide, by decide⟩ ?_
    refine ⟨0, by decide, rfl, e2, e3.sJ, fun _ => ?_⟩
    exact xJ_sJe
  · obtain ⟨i9, h1, h2, h3⟩ := q1
    rcases i9 with _ | _ | i9
    · have h1 : some xIO = some E1 := h1
      obtain rfl := Option.some.inj h1
      refine GX_catch [] _ _ rfl (fun z hz => absurd hz List.not_mem_nil) rfl (by decide) cl_L_19 ct_19 (hp := 15) (i := 5) (len := 2) rfl (Or.inr ⟨rfl, dL_contactsByPairs_15⟩) (by decide) ?_
      refine G_iconst (pc := 17) (v := nI 1) dL_contactsByPairs_17 (by first | rfl | decide) ?_
      refine G_iret (pc := 18) VZ.x dL_contactsByPairs_18 rfl ⟨by decide, by decide⟩ ?_
      exact ⟨1, by decide, rfl, h2, h3, fun q => absurd q (by decide)⟩
    · have h1 : some xIA = some E1 := h1
      obtain rfl := Option.some.inj h1
      refine GX_catch [_] _ _ rfl (fun z hz => by rcases List.mem_cons.mp hz with rfl | hz; exact Or.inr ⟨by decide, _, cl_L_19, by decide⟩; exact absurd hz List.not_mem_nil) rfl (by decide) cl_L_13 ct_13 (hp := 19) (i := 5) (len := 2) rfl (Or.inr ⟨rfl, dL_contactsByPairs_19⟩) (by decide) ?_
      refine G_iconst (pc := 21) (v := nI 2) dL_contactsByPairs_21 (by first | rfl | decide) ?_
      refine G_iret (pc := 22) VZ.x dL_contactsByPairs_22 rfl ⟨by decide, by decide⟩ ?_
      exact ⟨2, by decide, rfl, h2, h3, fun q => absurd q (by decide)⟩
    · exact absurd h1 (by simp)
theorem W_wins {Γ : GTy} {Z : HS} {n : Nat} {F' : FT} {b x0 : Int32} (hH : SH Z) (hop : Tt Γ M_X9_wins [.ref 800000, .int x0] Z (QVo n Z F' b) (QXo n Z F' [xIO])) : Tw Γ M_L_wins [.ref 800000, .int x0, .ref 1990000] Z (QW n Z F' b.toInt64) noX := by
  refine Tw_of' rfl rfl ?_
  show G Γ M_L_wins (rm M_L_wins) (Vt Γ M_L_wins (QW n Z F' b.toInt64) noX) (0, 0) 0 [some (.ref 800000), some (.int x0), some (.ref 1990000), none] [] Z
  have hJ := hH.2.2.2.2.2.1
  refine G_aload_n (pc := 0) dL_wins_0 rfl ?_
  refine G_iconst (pc := 1) (v := nI 0) dL_wins_1 (by first | rfl | decide) ?_
  refine G_aload_n (pc := 2) dL_wins_2 rfl ?_
  refine G_iload_n (pc := 3) dL_wins_3 rfl ?_
  refine K_V1 (pc := 4) (k' := (1, 6)) mok_X9_wins lk_L_102 (sh_k hH) rfl rfl rfl (aok0 rfl) dL_wins_4 (hop) rfl (fun v1 Y1 q1 => ?_) (fun E1 Y1 q1 => ?_)
  · obtain ⟨e1, e2, e3⟩ := q1; subst e1; have hH2 := SH_nx e3
    show G _ _ _ _ _ _ _ (_ :: _) _
    refine G_i2l (pc := 7) dL_wins_7 ?_
    refine G_last (pc := 8) (j := 0) hH2.2.2.2.2.2.1 rfl (by rw [hH2.2.2.2.2.2.2]; decide) (by omega) dL_wins_8 ?_
    refine G_goto (pc := 9) (tgt := 15) dL_wins_9 (by decide) ?_
    refine G_iconst (pc := 15) (v := nI 0) dL_wins_15 (by first | rfl | decide) ?_
    refine G_iret (pc := 16) VZ.x dL_wins_16 rfl ⟨by decide, by decide⟩ ?_
    refine ⟨0, by decide, rfl, e2, e3.sJ, fun _ => ?_⟩
    exact xJ_sJe
  · obtain ⟨i9, h1, h2, h3⟩ := q1
    rcases i9 with _ | i9
    · have h1 : some xIO = some E1 := h1
      obtain rfl := Option.some.inj h1
      refine GX_catch [] _ _ rfl (fun z hz => absurd hz List.not_mem_nil) rfl (by decide) cl_L_19 ct_19 (hp := 12) (i := 3) (len := 1) rfl (Or.inl ⟨3, rfl, rfl, dL_wins_12⟩) (by decide) ?_
      refine G_iconst (pc := 13) (v := nI 1) dL_wins_13 (by first | rfl | decide) ?_
      refine G_iret (pc := 14) VZ.x dL_wins_14 rfl ⟨by decide, by decide⟩ ?_
      exact ⟨1, by decide, rfl, h2, h3, fun q => absurd q (by decide)⟩
    · exact absurd h1 (by simp)
theorem W_rank {Γ : GTy} {Z : HS} {n : Nat} {F' : FT} {b x0 : Int32} (hH : SH Z) (hop : Tt Γ M_X9_rank [.ref 800000, .int x0] Z (QVo n Z F' b) (QXo n Z F' [xIO])) : Tw Γ M_L_rank [.ref 800000, .int x0, .ref 1990000] Z (QW n Z F' b.toInt64) noX := by
  refine Tw_of' rfl rfl ?_
  show G Γ M_L_rank (rm M_L_rank) (Vt Γ M_L_rank (QW n Z F' b.toInt64) noX) (0, 0) 0 [some (.ref 800000), some (.int x0), some (.ref 1990000), none] [] Z
  have hJ := hH.2.2.2.2.2.1
  refine G_aload_n (pc := 0) dL_rank_0 rfl ?_
  refine G_iconst (pc := 1) (v := nI 0) dL_rank_1 (by first | rfl | decide) ?_
  refine G_aload_n (pc := 2) dL_rank_2 rfl ?_
  refine G_iload_n (pc := 3) dL_rank_3 rfl ?_
  refine K_V1 (pc := 4) (k' := (1, 6)) mok_X9_rank lk_L_105 (sh_k hH) rfl rfl rfl (aok0 rfl) dL_rank_4 (hop) rfl (fun v1 Y1 q1 => ?_) (fun E1 Y1 q1 => ?_)
  · obtain ⟨e1, e2, e3⟩ := q1; subst e1; have hH2 := SH_nx e3
    show G _ _ _ _ _ _ _ (_ :: _) _
    refine G_i2l (pc := 7) dL_rank_7 ?_
    refine G_last (pc := 8) (j := 0) hH2.2.2.2.2.2.1 rfl (by rw [hH2.2.2.2.2.2.2]; decide) (by omega) dL_rank_8 ?_
    refine G_goto (pc := 9) (tgt := 15) dL_rank_9 (by decide) ?_
    refine G_iconst (pc := 15) (v := nI 0) dL_rank_15 (by first | rfl | decide) ?_
    refine G_iret (pc := 16) VZ.x dL_rank_16 rfl ⟨by decide, by decide⟩ ?_
    refine ⟨0, by decide, rfl, e2, e3.sJ, fun _ => ?_⟩
    exact xJ_sJe
  · obtain ⟨i9, h1, h2, h3⟩ := q1
    rcases i9 with _ | i9
    · have h1 : some xIO = some E1 := h1
      obtain rfl := Option.some.inj h1
      refine GX_catch [] _ _ rfl (fun z hz => absurd hz List.not_mem_nil) rfl (by decide) cl_L_19 ct_19 (hp := 12) (i := 3) (len := 1) rfl (Or.inl ⟨3, rfl, rfl, dL_rank_12⟩) (by decide) ?_
      refine G_iconst (pc := 13) (v := nI 1) dL_rank_13 (by first | rfl | decide) ?_
      refine G_iret (pc := 14) VZ.x dL_rank_14 rfl ⟨by decide, by decide⟩ ?_
      exact ⟨1, by decide, rfl, h2, h3, fun q => absurd q (by decide)⟩
    · exact absurd h1 (by simp)
theorem W_wear {Γ : GTy} {Z : HS} {n : Nat} {F' : FT} {b x0 : Int32} (hH : SH Z) (hop : Tt Γ M_X9_wear [.ref 800000, .int x0] Z (QVo n Z F' b) (QXo n Z F' [xIO])) : Tw Γ M_L_wear [.ref 800000, .int x0, .ref 1990000] Z (QW n Z F' b.toInt64) noX := by
  refine Tw_of' rfl rfl ?_
  show G Γ M_L_wear (rm M_L_wear) (Vt Γ M_L_wear (QW n Z F' b.toInt64) noX) (0, 0) 0 [some (.ref 800000), some (.int x0), some (.ref 1990000), none] [] Z
  have hJ := hH.2.2.2.2.2.1
  refine G_aload_n (pc := 0) dL_wear_0 rfl ?_
  refine G_iconst (pc := 1) (v := nI 0) dL_wear_1 (by first | rfl | decide) ?_
  refine G_aload_n (pc := 2) dL_wear_2 rfl ?_
  refine G_iload_n (pc := 3) dL_wear_3 rfl ?_
  refine K_V1 (pc := 4) (k' := (1, 6)) mok_X9_wear lk_L_108 (sh_k hH) rfl rfl rfl (aok0 rfl) dL_wear_4 (hop) rfl (fun v1 Y1 q1 => ?_) (fun E1 Y1 q1 => ?_)
  · obtain ⟨e1, e2, e3⟩ := q1; subst e1; have hH2 := SH_nx e3
    show G _ _ _ _ _ _ _ (_ :: _) _
    refine G_i2l (pc := 7) dL_wear_7 ?_
    refine G_last (pc := 8) (j := 0) hH2.2.2.2.2.2.1 rfl (by rw [hH2.2.2.2.2.2.2]; decide) (by omega) dL_wear_8 ?_
    refine G_goto (pc := 9) (tgt := 15) dL_wear_9 (by decide) ?_
    refine G_iconst (pc := 15) (v := nI 0) dL_wear_15 (by first | rfl | decide) ?_
    refine G_iret (pc := 16) VZ.x dL_wear_16 rfl ⟨by decide, by decide⟩ ?_
    refine ⟨0, by decide, rfl, e2, e3.sJ, fun _ => ?_⟩
    exact xJ_sJe
  · obtain ⟨i9, h1, h2, h3⟩ := q1
    rcases i9 with _ | i9
    · have h1 : some xIO = some E1 := h1
      obtain rfl := Option.some.inj h1
      refine GX_catch [] _ _ rfl (fun z hz => absurd hz List.not_mem_nil) rfl (by decide) cl_L_19 ct_19 (hp := 12) (i := 3) (len := 1) rfl (Or.inl ⟨3, rfl, rfl, dL_wear_12⟩) (by decide) ?_
      refine G_iconst (pc := 13) (v := nI 1) dL_wear_13 (by first | rfl | decide) ?_
      refine G_iret (pc := 14) VZ.x dL_wear_14 rfl ⟨by decide, by decide⟩ ?_
      exact ⟨1, by decide, rfl, h2, h3, fun q => absurd q (by decide)⟩
    · exact absurd h1 (by simp)
theorem W_cueOf {Γ : GTy} {Z : HS} {n : Nat} {F' : FT} {b x0 : Int32} (hH : SH Z) (hop : Tt Γ M_X9_cueOf [.ref 800000, .int x0] Z (QVo n Z F' b) (QXo n Z F' [xIO])) : Tw Γ M_L_cueOf [.ref 800000, .int x0, .ref 1990000] Z (QW n Z F' b.toInt64) noX := by
  refine Tw_of' rfl rfl ?_
  show G Γ M_L_cueOf (rm M_L_cueOf) (Vt Γ M_L_cueOf (QW n Z F' b.toInt64) noX) (0, 0) 0 [some (.ref 800000), some (.int x0), some (.ref 1990000), none] [] Z
  have hJ := hH.2.2.2.2.2.1
  refine G_aload_n (pc := 0) dL_cueOf_0 rfl ?_
  refine G_iconst (pc := 1) (v := nI 0) dL_cueOf_1 (by first | rfl | decide) ?_
  refine G_aload_n (pc := 2) dL_cueOf_2 rfl ?_
  refine G_iload_n (pc := 3) dL_cueOf_3 rfl ?_
  refine K_V1 (pc := 4) (k' := (1, 6)) mok_X9_cueOf lk_L_111 (sh_k hH) rfl rfl rfl (aok0 rfl) dL_cueOf_4 (hop) rfl (fun v1 Y1 q1 => ?_) (fun E1 Y1 q1 => ?_)
  · obtain ⟨e1, e2, e3⟩ := q1; subst e1; have hH2 := SH_nx e3
    show G _ _ _ _ _ _ _ (_ :: _) _
    refine G_i2l (pc := 7) dL_cueOf_7 ?_
    refine G_last (pc := 8) (j := 0) hH2.2.2.2.2.2.1 rfl (by rw [hH2.2.2.2.2.2.2]; decide) (by omega) dL_cueOf_8 ?_
    refine G_goto (pc := 9) (tgt := 15) dL_cueOf_9 (by decide) ?_
    refine G_iconst (pc := 15) (v := nI 0) dL_cueOf_15 (by first | rfl | decide) ?_
    refine G_iret (pc := 16) VZ.x dL_cueOf_16 rfl ⟨by decide, by decide⟩ ?_
    refine ⟨0, by decide, rfl, e2, e3.sJ, fun _ => ?_⟩
    exact xJ_sJe
  · obtain ⟨i9, h1, h2, h3⟩ := q1
    rcases i9 with _ | i9
    · have h1 : some xIO = some E1 := h1
      obtain rfl := Option.some.inj h1
      refine GX_catch [] _ _ rfl (fun z hz => absurd hz List.not_mem_nil) rfl (by decide) cl_L_19 ct_19 (hp := 12) (i := 3) (len := 1) rfl (Or.inl ⟨3, rfl, rfl, dL_cueOf_12⟩) (by decide) ?_
      refine G_iconst (pc := 13) (v := nI 1) dL_cueOf_13 (by first | rfl | decide) ?_
      refine G_iret (pc := 14) VZ.x dL_cueOf_14 rfl ⟨by decide, by decide⟩ ?_
      exact ⟨1, by decide, rfl, h2, h3, fun q => absurd q (by decide)⟩
    · exact absurd h1 (by simp)
theorem W_force {Γ : GTy} {Z : HS} {n : Nat} {F' : FT} {b x0 x1 : Int32} (hH : SH Z) (hop : Tt Γ M_X9_force [.ref 800000, .int x0, .int x1] Z (QVo n Z F' b) (QXo n Z F' [xIO, xIA])) : Tw Γ M_L_force [.ref 800000, .int x0, .int x1, .ref 1990000] Z (QW n Z F' b.toInt64) noX := by
  refine Tw_of' rfl rfl ?_
  show G Γ M_L_force (rm M_L_force) (Vt Γ M_L_force (QW n Z F' b.toInt64) noX) (0, 0) 0 [some (.ref 800000), some (.int x0), some (.int x1), some (.ref 1990000), none] [] Z
  have hJ := hH.2.2.2.2.2.1
  refine G_aload_n (pc := 0) dL_force_0 rfl ?_
  refine G_iconst (pc := 1) (v := nI 0) dL_force_1 (by first | rfl | decide) ?_
  refine G_aload_n (pc := 2) dL_force_2 rfl ?_
  refine G_iload_n (pc := 3) dL_force_3 rfl ?_
  refine G_iload_n (pc := 4) dL_force_4 rfl ?_
  refine K_V2 (pc := 5) (k' := (2, 12)) mok_X9_force lk_L_114 (sh_k hH) rfl rfl rfl (aok0 rfl) dL_force_5 (hop) rfl (fun v1 Y1 q1 => ?_) (fun E1 Y1 q1 => ?_)
  · obtain ⟨e1, e2, e3⟩ := q1; subst e1; have hH2 := SH_nx e3
    show G _ _ _ _ _ _ _ (_ :: _) _
    refine G_i2l (pc := 8) dL_force_8 ?_
    refine G_last (pc := 9) (j := 0) hH2.2.2.2.2.2.1 rfl (by rw [hH2.2.2.2.2.2.2]; decide) (by omega) dL_force_9 ?_
    refine G_goto (pc := 10) (tgt := 21) dL_force_10 (by decide) ?_
    refine G_iconst (pc := 21) (v := nI 0) dL_force_21 (by first | rfl | decide) ?_
    refine G_iret (pc := 22) VZ.x dL_force_22 rfl ⟨by decide, by decide⟩ ?_
    refine ⟨0, by decide, rfl, e2, e3.sJ, fun _ => ?_⟩
    exact xJ_sJe
  · obtain ⟨i9, h1, h2, h3⟩ := q1
    rcases i9 with _ | _ | i9
    · have h1 : some xIO = some E1 := h1
      obtain rfl := Option.some.inj h1
      refine GX_catch [] _ _ rfl (fun z hz => absurd hz List.not_mem_nil) rfl (by decide) cl_L_19 ct_19 (hp := 13) (i := 4) (len := 2) rfl (Or.inr ⟨rfl, dL_force_13⟩) (by decide) ?_
      refine G_iconst (pc := 15) (v := nI 1) dL_force_15 (by first | rfl | decide) ?_
      refine G_iret (pc := 16) VZ.x dL_force_16 rfl ⟨by decide, by decide⟩ ?_
      exact ⟨1, by decide, rfl, h2, h3, fun q => absurd q (by decide)⟩
    · have h1 : some xIA = some E1 := h1
      obtain rfl := Option.some.inj h1
      refine GX_catch [_] _ _ rfl (fun z hz => by rcases List.mem_cons.mp hz with rfl | hz; exact Or.inr ⟨by decide, _, cl_L_19, by decide⟩; exact absurd hz List.not_mem_nil) rfl (by decide) cl_L_13 ct_13 (hp := 17) (i := 4) (len := 2) rfl (Or.inr ⟨rfl, dL_force_17⟩) (by decide) ?_
      refine G_iconst (pc := 19) (v := nI 2) dL_force_19 (by first | rfl | decide) ?_
      refine G_iret (pc := 20) VZ.x dL_force_20 rfl ⟨by decide, by decide⟩ ?_
      exact ⟨2, by decide, rfl, h2, h3, fun q => absurd q (by decide)⟩
    · exact absurd h1 (by simp)
