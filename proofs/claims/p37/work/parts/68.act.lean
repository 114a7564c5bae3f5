-- ===== act =====
def xc (E : String) : Int32 := if E = xIO then -71 else if E = xIA then -72 else -73
theorem xc_IO : xc xIO = -71 := by decide
theorem xc_IA : xc xIA = -72 := by decide
theorem xc_IS : xc xIS = -73 := by decide
theorem ct_IO : Cond.castable xIO "java/lang/IndexOutOfBoundsException" ∈ XW := by decide +kernel
theorem ct_IA : Cond.castable xIA "java/lang/IllegalArgumentException" ∈ XW := by decide +kernel
theorem ct_IS : Cond.castable xIS "java/lang/IllegalStateException" ∈ XW := by decide +kernel
theorem act_0 {Γ : GTy} {Z : HS} {P : HS → FT → Prop} {F' : FT} {x y z b : Int32} {es : List String} {QV' : Option Value → HS → Prop} (hH : SH Z) (hop : Tt Γ M_X9_setPrice [.ref 800000, .int x] Z (QVo P Z F' b) (QXo P Z F' es)) (hes : ∀ E, E ∈ es → E = xIO ∨ E = xIA ∨ E = xIS) (hv : ∀ Z' : HS, F' 25 0 = nI 0 → P Z' F' → QV' (some (.int b)) Z') (hx : ∀ (i : Nat) (E : String) (Z' : HS), es[i]? = some E → F' 25 0 = nI (i + 1) → P Z' F' → QV' (some (.int (xc E))) Z') : Tw Γ M_L_act [.ref 800000, .int (nI 0), .int x, .int y, .int z] Z QV' noX := by
  refine Tw_of' rfl rfl ?_
  show G Γ M_L_act (rm M_L_act) (Vt Γ M_L_act QV' noX) (0, 0) 0 [some (.ref 800000), some (.int (nI 0)), some (.int x), some (.int y), some (.int z), none] [] Z
  refine G_iload_n (pc := 0) dL_act_0 rfl ?_
  refine G_if_neN (pc := 1) (tgt := 12) (by omega) dL_act_1 (by decide) (fun h => absurd h (by decide)) (fun _ => ?_)
  refine G_aload_n (pc := 4) dL_act_4 rfl ?_
  refine G_iload_n (pc := 5) dL_act_5 rfl ?_
  refine K_V1 (pc := 6) (k' := (1, 6)) mok_X9_setPrice lk_L_7 (sh_k hH) rfl rfl rfl (aok0 rfl) dL_act_6 (hop) rfl (fun v1 Y1 q1 => ?_) (fun E1 Y1 q1 => ?_)
  · obtain ⟨e1, e2, e3⟩ := q1; subst e1
    show G _ _ _ _ _ _ _ (_ :: _) _
    refine G_goto (pc := 9) (tgt := 494) dL_act_9 (by decide) ?_
    refine G_iret (pc := 494) VZ.x dL_act_494 rfl ⟨by decide, by decide⟩ ?_
    exact hv _ e2 e3
  · obtain ⟨i9, h1, h2, h3⟩ := q1
    rcases hes E1 (List.mem_of_getElem? h1) with rfl | rfl | rfl
    · refine GX_catch [] _ _ rfl (fun z hz => absurd hz List.not_mem_nil) rfl (by decide) cl_L_111 ct_IO (hp := 495) (i := 5) (len := 2) rfl (Or.inr ⟨rfl, dL_act_495⟩) (by decide) ?_
      refine G_bipush (pc := 497) (v := -71) dL_act_497 (by first | rfl | decide) ?_
      refine G_iret (pc := 499) VZ.x dL_act_499 rfl ⟨by decide, by decide⟩ ?_
      have e := hx i9 _ _ h1 h2 h3
      rw [xc_IO] at e
      exact e
    · refine GX_catch [_] _ _ rfl (fun z hz => by rw [List.mem_singleton.mp hz]; exact Or.inr ⟨by decide, _, cl_L_111, by decide⟩) rfl (by decide) cl_L_113 ct_IA (hp := 500) (i := 5) (len := 2) rfl (Or.inr ⟨rfl, dL_act_500⟩) (by decide) ?_
      refine G_bipush (pc := 502) (v := -72) dL_act_502 (by first | rfl | decide) ?_
      refine G_iret (pc := 504) VZ.x dL_act_504 rfl ⟨by decide, by decide⟩ ?_
      have e := hx i9 _ _ h1 h2 h3
      rw [xc_IA] at e
      exact e
    · refine GX_catch [_, _] _ _ rfl (fun z hz => by rcases List.mem_cons.mp hz with rfl | hz; exact Or.inr ⟨by decide, _, cl_L_111, by decide⟩; rw [List.mem_singleton.mp hz]; exact Or.inr ⟨by decide, _, cl_L_113, by decide⟩) rfl (by decide) cl_L_115 ct_IS (hp := 505) (i := 5) (len := 2) rfl (Or.inr ⟨rfl, dL_act_505⟩) (by decide) ?_
      refine G_bipush (pc := 507) (v := -73) dL_act_507 (by first | rfl | decide) ?_
      refine G_iret (pc := 509) VZ.x dL_act_509 rfl ⟨by decide, by decide⟩ ?_
      have e := hx i9 _ _ h1 h2 h3
      rw [xc_IS] at e
      exact e
theorem act_1 {Γ : GTy} {Z : HS} {P : HS → FT → Prop} {F' : FT} {x y z b : Int32} {es : List String} {QV' : Option Value → HS → Prop} (hH : SH Z) (hop : Tt Γ M_X9_rent [.ref 800000, .int x, .int y] Z (QVo P Z F' b) (QXo P Z F' es)) (hes : ∀ E, E ∈ es → E = xIO ∨ E = xIA ∨ E = xIS) (hv : ∀ Z' : HS, F' 25 0 = nI 0 → P Z' F' → QV' (some (.int b)) Z') (hx : ∀ (i : Nat) (E : String) (Z' : HS), es[i]? = some E → F' 25 0 = nI (i + 1) → P Z' F' → QV' (some (.int (xc E))) Z') : Tw Γ M_L_act [.ref 800000, .int (nI 1), .int x, .int y, .int z] Z QV' noX := by
  refine Tw_of' rfl rfl ?_
  show G Γ M_L_act (rm M_L_act) (Vt Γ M_L_act QV' noX) (0, 0) 0 [some (.ref 800000), some (.int (nI 1)), some (.int x), some (.int y), some (.int z), none] [] Z
  refine G_iload_n (pc := 0) dL_act_0 rfl ?_
  refine G_if_neN (pc := 1) (tgt := 12) (by omega) dL_act_1 (by decide) (fun _ => ?_) (fun h => absurd h (by decide))
  refine G_iload_n (pc := 12) dL_act_12 rfl ?_
  refine G_iconst (pc := 13) (v := nI 1) dL_act_13 (by first | rfl | decide) ?_
  refine G_icmp_neN (pc := 14) (tgt := 26) (by omega) (by omega) dL_act_14 (by decide) (fun h => absurd h (by decide)) (fun _ => ?_)
  refine G_aload_n (pc := 17) dL_act_17 rfl ?_
  refine G_iload_n (pc := 18) dL_act_18 rfl ?_
  refine G_iload_n (pc := 19) dL_act_19 rfl ?_
  refine K_V2 (pc := 20) (k' := (4, 23)) mok_X9_rent lk_L_13 (sh_k hH) rfl rfl rfl (fun _ => ⟨rfl, fun r hr => by rw [List.mem_singleton.mp (show r ∈ [800000] from hr), sh_k hH]; decide, fun _ hr => nomatch hr⟩) dL_act_20 (hop) rfl (fun v1 Y1 q1 => ?_) (fun E1 Y1 q1 => ?_)
  · obtain ⟨e1, e2, e3⟩ := q1; subst e1
    show G _ _ _ _ _ _ _ (_ :: _) _
    refine G_goto (pc := 23) (tgt := 494) dL_act_23 (by decide) ?_
    refine G_iret (pc := 494) VZ.x dL_act_494 rfl ⟨by decide, by decide⟩ ?_
    exact hv _ e2 e3
  · obtain ⟨i9, h1, h2, h3⟩ := q1
    rcases hes E1 (List.mem_of_getElem? h1) with rfl | rfl | rfl
    · refine GX_catch [] _ _ rfl (fun z hz => absurd hz List.not_mem_nil) rfl (by decide) cl_L_111 ct_IO (hp := 495) (i := 5) (len := 2) rfl (Or.inr ⟨rfl, dL_act_495⟩) (by decide) ?_
      refine G_bipush (pc := 497) (v := -71) dL_act_497 (by first | rfl | decide) ?_
      refine G_iret (pc := 499) VZ.x dL_act_499 rfl ⟨by decide, by decide⟩ ?_
      have e := hx i9 _ _ h1 h2 h3
      rw [xc_IO] at e
      exact e
    · refine GX_catch [_] _ _ rfl (fun z hz => by rw [List.mem_singleton.mp hz]; exact Or.inr ⟨by decide, _, cl_L_111, by decide⟩) rfl (by decide) cl_L_113 ct_IA (hp := 500) (i := 5) (len := 2) rfl (Or.inr ⟨rfl, dL_act_500⟩) (by decide) ?_
      refine G_bipush (pc := 502) (v := -72) dL_act_502 (by first | rfl | decide) ?_
      refine G_iret (pc := 504) VZ.x dL_act_504 rfl ⟨by decide, by decide⟩ ?_
      have e := hx i9 _ _ h1 h2 h3
      rw [xc_IA] at e
      exact e
    · refine GX_catch [_, _] _ _ rfl (fun z hz => by rcases List.mem_cons.mp hz with rfl | hz; exact Or.inr ⟨by decide, _, cl_L_111, by decide⟩; rw [List.mem_singleton.mp hz]; exact Or.inr ⟨by decide, _, cl_L_113, by decide⟩) rfl (by decide) cl_L_115 ct_IS (hp := 505) (i := 5) (len := 2) rfl (Or.inr ⟨rfl, dL_act_505⟩) (by decide) ?_
      refine G_bipush (pc := 507) (v := -73) dL_act_507 (by first | rfl | decide) ?_
      refine G_iret (pc := 509) VZ.x dL_act_509 rfl ⟨by decide, by decide⟩ ?_
      have e := hx i9 _ _ h1 h2 h3
      rw [xc_IS] at e
      exact e
theorem act_2 {Γ : GTy} {Z : HS} {P : HS → FT → Prop} {F' : FT} {x y z b : Int32} {es : List String} {QV' : Option Value → HS → Prop} (hH : SH Z) (hop : Tt Γ M_X9_end [.ref 800000, .int x] Z (QVo P Z F' b) (QXo P Z F' es)) (hes : ∀ E, E ∈ es → E = xIO ∨ E = xIA ∨ E = xIS) (hv : ∀ Z' : HS, F' 25 0 = nI 0 → P Z' F' → QV' (some (.int b)) Z') (hx : ∀ (i : Nat) (E : String) (Z' : HS), es[i]? = some E → F' 25 0 = nI (i + 1) → P Z' F' → QV' (some (.int (xc E))) Z') : Tw Γ M_L_act [.ref 800000, .int (nI 2), .int x, .int y, .int z] Z QV' noX := by
  refine Tw_of' rfl rfl ?_
  show G Γ M_L_act (rm M_L_act) (Vt Γ M_L_act QV' noX) (0, 0) 0 [some (.ref 800000), some (.int (nI 2)), some (.int x), some (.int y), some (.int z), none] [] Z
  refine G_iload_n (pc := 0) dL_act_0 rfl ?_
  refine G_if_neN (pc := 1) (tgt := 12) (by omega) dL_act_1 (by decide) (fun _ => ?_) (fun h => absurd h (by decide))
  refine G_iload_n (pc := 12) dL_act_12 rfl ?_
  refine G_iconst (pc := 13) (v := nI 1) dL_act_13 (by first | rfl | decide) ?_
  refine G_icmp_neN (pc := 14) (tgt := 26) (by omega) (by omega) dL_act_14 (by decide) (fun _ => ?_) (fun h => absurd h (by decide))
  refine G_iload_n (pc := 26) dL_act_26 rfl ?_
  refine G_iconst (pc := 27) (v := nI 2) dL_act_27 (by first | rfl | decide) ?_
  refine G_icmp_neN (pc := 28) (tgt := 39) (by omega) (by omega) dL_act_28 (by decide) (fun h => absurd h (by decide)) (fun _ => ?_)
  refine G_aload_n (pc := 31) dL_act_31 rfl ?_
  refine G_iload_n (pc := 32) dL_act_32 rfl ?_
  refine K_V1 (pc := 33) (k' := (2, 12)) mok_X9_end lk_L_17 (sh_k hH) rfl rfl rfl (aok0 rfl) dL_act_33 (hop) rfl (fun v1 Y1 q1 => ?_) (fun E1 Y1 q1 => ?_)
  · obtain ⟨e1, e2, e3⟩ := q1; subst e1
    show G _ _ _ _ _ _ _ (_ :: _) _
    refine G_goto (pc := 36) (tgt := 494) dL_act_36 (by decide) ?_
    refine G_iret (pc := 494) VZ.x dL_act_494 rfl ⟨by decide, by decide⟩ ?_
    exact hv _ e2 e3
  · obtain ⟨i9, h1, h2, h3⟩ := q1
    rcases hes E1 (List.mem_of_getElem? h1) with rfl | rfl | rfl
    · refine GX_catch [] _ _ rfl (fun z hz => absurd hz List.not_mem_nil) rfl (by decide) cl_L_111 ct_IO (hp := 495) (i := 5) (len := 2) rfl (Or.inr ⟨rfl, dL_act_495⟩) (by decide) ?_
      refine G_bipush (pc := 497) (v := -71) dL_act_497 (by first | rfl | decide) ?_
      refine G_iret (pc := 499) VZ.x dL_act_499 rfl ⟨by decide, by decide⟩ ?_
      have e := hx i9 _ _ h1 h2 h3
      rw [xc_IO] at e
      exact e
    · refine GX_catch [_] _ _ rfl (fun z hz => by rw [List.mem_singleton.mp hz]; exact Or.inr ⟨by decide, _, cl_L_111, by decide⟩) rfl (by decide) cl_L_113 ct_IA (hp := 500) (i := 5) (len := 2) rfl (Or.inr ⟨rfl, dL_act_500⟩) (by decide) ?_
      refine G_bipush (pc := 502) (v := -72) dL_act_502 (by first | rfl | decide) ?_
      refine G_iret (pc := 504) VZ.x dL_act_504 rfl ⟨by decide, by decide⟩ ?_
      have e := hx i9 _ _ h1 h2 h3
      rw [xc_IA] at e
      exact e
    · refine GX_catch [_, _] _ _ rfl (fun z hz => by rcases List.mem_cons.mp hz with rfl | hz; exact Or.inr ⟨by decide, _, cl_L_111, by decide⟩; rw [List.mem_singleton.mp hz]; exact Or.inr ⟨by decide, _, cl_L_113, by decide⟩) rfl (by decide) cl_L_115 ct_IS (hp := 505) (i := 5) (len := 2) rfl (Or.inr ⟨rfl, dL_act_505⟩) (by decide) ?_
      refine G_bipush (pc := 507) (v := -73) dL_act_507 (by first | rfl | decide) ?_
      refine G_iret (pc := 509) VZ.x dL_act_509 rfl ⟨by decide, by decide⟩ ?_
      have e := hx i9 _ _ h1 h2 h3
      rw [xc_IS] at e
      exact e
theorem act_3 {Γ : GTy} {Z : HS} {P : HS → FT → Prop} {F' : FT} {x y z b : Int32} {es : List String} {QV' : Option Value → HS → Prop} (hH : SH Z) (hop : Tt Γ M_X9_tear [.ref 800000, .int x] Z (QVo P Z F' b) (QXo P Z F' es)) (hes : ∀ E, E ∈ es → E = xIO ∨ E = xIA ∨ E = xIS) (hv : ∀ Z' : HS, F' 25 0 = nI 0 → P Z' F' → QV' (some (.int b)) Z') (hx : ∀ (i : Nat) (E : String) (Z' : HS), es[i]? = some E → F' 25 0 = nI (i + 1) → P Z' F' → QV' (some (.int (xc E))) Z') : Tw Γ M_L_act [.ref 800000, .int (nI 3), .int x, .int y, .int z] Z QV' noX := by
  refine Tw_of' rfl rfl ?_
  show G Γ M_L_act (rm M_L_act) (Vt Γ M_L_act QV' noX) (0, 0) 0 [some (.ref 800000), some (.int (nI 3)), some (.int x), some (.int y), some (.int z), none] [] Z
  refine G_iload_n (pc := 0) dL_act_0 rfl ?_
  refine G_if_neN (pc := 1) (tgt := 12) (by omega) dL_act_1 (by decide) (fun _ => ?_) (fun h => absurd h (by decide))
  refine G_iload_n (pc := 12) dL_act_12 rfl ?_
  refine G_iconst (pc := 13) (v := nI 1) dL_act_13 (by first | rfl | decide) ?_
  refine G_icmp_neN (pc := 14) (tgt := 26) (by omega) (by omega) dL_act_14 (by decide) (fun _ => ?_) (fun h => absurd h (by decide))
  refine G_iload_n (pc := 26) dL_act_26 rfl ?_
  refine G_iconst (pc := 27) (v := nI 2) dL_act_27 (by first | rfl | decide) ?_
  refine G_icmp_neN (pc := 28) (tgt := 39) (by omega) (by omega) dL_act_28 (by decide) (fun _ => ?_) (fun h => absurd h (by decide))
  refine G_iload_n (pc := 39) dL_act_39 rfl ?_
  refine G_iconst (pc := 40) (v := nI 3) dL_act_40 (by first | rfl | decide) ?_
  refine G_icmp_neN (pc := 41) (tgt := 52) (by omega) (by omega) dL_act_41 (by decide) (fun h => absurd h (by decide)) (fun _ => ?_)
  refine G_aload_n (pc := 44) dL_act_44 rfl ?_
  refine G_iload_n (pc := 45) dL_act_45 rfl ?_
  refine K_V1 (pc := 46) (k' := (2, 12)) mok_X9_tear lk_L_20 (sh_k hH) rfl rfl rfl (aok0 rfl) dL_act_46 (hop) rfl (fun v1 Y1 q1 => ?_) (fun E1 Y1 q1 => ?_)
  · obtain ⟨e1, e2, e3⟩ := q1; subst e1
    show G _ _ _ _ _ _ _ (_ :: _) _
    refine G_goto (pc := 49) (tgt := 494) dL_act_49 (by decide) ?_
    refine G_iret (pc := 494) VZ.x dL_act_494 rfl ⟨by decide, by decide⟩ ?_
    exact hv _ e2 e3
  · obtain ⟨i9, h1, h2, h3⟩ := q1
    rcases hes E1 (List.mem_of_getElem? h1) with rfl | rfl | rfl
    · refine GX_catch [] _ _ rfl (fun z hz => absurd hz List.not_mem_nil) rfl (by decide) cl_L_111 ct_IO (hp := 495) (i := 5) (len := 2) rfl (Or.inr ⟨rfl, dL_act_495⟩) (by decide) ?_
      refine G_bipush (pc := 497) (v := -71) dL_act_497 (by first | rfl | decide) ?_
      refine G_iret (pc := 499) VZ.x dL_act_499 rfl ⟨by decide, by decide⟩ ?_
      have e := hx i9 _ _ h1 h2 h3
      rw [xc_IO] at e
      exact e
    · refine GX_catch [_] _ _ rfl (fun z hz => by rw [List.mem_singleton.mp hz]; exact Or.inr ⟨by decide, _, cl_L_111, by decide⟩) rfl (by decide) cl_L_113 ct_IA (hp := 500) (i := 5) (len := 2) rfl (Or.inr ⟨rfl, dL_act_500⟩) (by decide) ?_
      refine G_bipush (pc := 502) (v := -72) dL_act_502 (by first | rfl | decide) ?_
      refine G_iret (pc := 504) VZ.x dL_act_504 rfl ⟨by decide, by decide⟩ ?_
      have e := hx i9 _ _ h1 h2 h3
      rw [xc_IA] at e
      exact e
    · refine GX_catch [_, _] _ _ rfl (fun z hz => by rcases List.mem_cons.mp hz with rfl | hz; exact Or.inr ⟨by decide, _, cl_L_111, by decide⟩; rw [List.mem_singleton.mp hz]; exact Or.inr ⟨by decide, _, cl_L_113, by decide⟩) rfl (by decide) cl_L_115 ct_IS (hp := 505) (i := 5) (len := 2) rfl (Or.inr ⟨rfl, dL_act_505⟩) (by decide) ?_
      refine G_bipush (pc := 507) (v := -73) dL_act_507 (by first | rfl | decide) ?_
      refine G_iret (pc := 509) VZ.x dL_act_509 rfl ⟨by decide, by decide⟩ ?_
      have e := hx i9 _ _ h1 h2 h3
      rw [xc_IS] at e
      exact e
theorem act_4 {Γ : GTy} {Z : HS} {P : HS → FT → Prop} {F' : FT} {x y z b : Int32} {es : List String} {QV' : Option Value → HS → Prop} (hH : SH Z) (hop : Tt Γ M_X9_mend [.ref 800000, .int x] Z (QVo P Z F' b) (QXo P Z F' es)) (hes : ∀ E, E ∈ es → E = xIO ∨ E = xIA ∨ E = xIS) (hv : ∀ Z' : HS, F' 25 0 = nI 0 → P Z' F' → QV' (some (.int b)) Z') (hx : ∀ (i : Nat) (E : String) (Z' : HS), es[i]? = some E → F' 25 0 = nI (i + 1) → P Z' F' → QV' (some (.int (xc E))) Z') : Tw Γ M_L_act [.ref 800000, .int (nI 4), .int x, .int y, .int z] Z QV' noX := by
  refine Tw_of' rfl rfl ?_
  show G Γ M_L_act (rm M_L_act) (Vt Γ M_L_act QV' noX) (0, 0) 0 [some (.ref 800000), some (.int (nI 4)), some (.int x), some (.int y), some (.int z), none] [] Z
  refine G_iload_n (pc := 0) dL_act_0 rfl ?_
  refine G_if_neN (pc := 1) (tgt := 12) (by omega) dL_act_1 (by decide) (fun _ => ?_) (fun h => absurd h (by decide))
  refine G_iload_n (pc := 12) dL_act_12 rfl ?_
  refine G_iconst (pc := 13) (v := nI 1) dL_act_13 (by first | rfl | decide) ?_
  refine G_icmp_neN (pc := 14) (tgt := 26) (by omega) (by omega) dL_act_14 (by decide) (fun _ => ?_) (fun h => absurd h (by decide))
  refine G_iload_n (pc := 26) dL_act_26 rfl ?_
  refine G_iconst (pc := 27) (v := nI 2) dL_act_27 (by first | rfl | decide) ?_
  refine G_icmp_neN (pc := 28) (tgt := 39) (by omega) (by omega) dL_act_28 (by decide) (fun _ => ?_) (fun h => absurd h (by decide))
  refine G_iload_n (pc := 39) dL_act_39 rfl ?_
  refine G_iconst (pc := 40) (v := nI 3) dL_act_40 (by first | rfl | decide) ?_
  refine G_icmp_neN (pc := 41) (tgt := 52) (by omega) (by omega) dL_act_41 (by decide) (fun _ => ?_) (fun h => absurd h (by decide))
  refine G_iload_n (pc := 52) dL_act_52 rfl ?_
  refine G_iconst (pc := 53) (v := nI 4) dL_act_53 (by first | rfl | decide) ?_
  refine G_icmp_neN (pc := 54) (tgt := 65) (by omega) (by omega) dL_act_54 (by decide) (fun h => absurd h (by decide)) (fun _ => ?_)
  refine G_aload_n (pc := 57) dL_act_57 rfl ?_
  refine G_iload_n (pc := 58) dL_act_58 rfl ?_
  refine K_V1 (pc := 59) (k' := (2, 12)) mok_X9_mend lk_L_23 (sh_k hH) rfl rfl rfl (aok0 rfl) dL_act_59 (hop) rfl (fun v1 Y1 q1 => ?_) (fun E1 Y1 q1 => ?_)
  · obtain ⟨e1, e2, e3⟩ := q1; subst e1
    show G _ _ _ _ _ _ _ (_ :: _) _
    refine G_goto (pc := 62) (tgt := 494) dL_act_62 (by decide) ?_
    refine G_iret (pc := 494) VZ.x dL_act_494 rfl ⟨by decide, by decide⟩ ?_
    exact hv _ e2 e3
  · obtain ⟨i9, h1, h2, h3⟩ := q1
    rcases hes E1 (List.mem_of_getElem? h1) with rfl | rfl | rfl
    · refine GX_catch [] _ _ rfl (fun z hz => absurd hz List.not_mem_nil) rfl (by decide) cl_L_111 ct_IO (hp := 495) (i := 5) (len := 2) rfl (Or.inr ⟨rfl, dL_act_495⟩) (by decide) ?_
      refine G_bipush (pc := 497) (v := -71) dL_act_497 (by first | rfl | decide) ?_
      refine G_iret (pc := 499) VZ.x dL_act_499 rfl ⟨by decide, by decide⟩ ?_
      have e := hx i9 _ _ h1 h2 h3
      rw [xc_IO] at e
      exact e
    · refine GX_catch [_] _ _ rfl (fun z hz => by rw [List.mem_singleton.mp hz]; exact Or.inr ⟨by decide, _, cl_L_111, by decide⟩) rfl (by decide) cl_L_113 ct_IA (hp := 500) (i := 5) (len := 2) rfl (Or.inr ⟨rfl, dL_act_500⟩) (by decide) ?_
      refine G_bipush (pc := 502) (v := -72) dL_act_502 (by first | rfl | decide) ?_
      refine G_iret (pc := 504) VZ.x dL_act_504 rfl ⟨by decide, by decide⟩ ?_
      have e := hx i9 _ _ h1 h2 h3
      rw [xc_IA] at e
      exact e
    · refine GX_catch [_, _] _ _ rfl (fun z hz => by rcases List.mem_cons.mp hz with rfl | hz; exact Or.inr ⟨by decide, _, cl_L_111, by decide⟩; rw [List.mem_singleton.mp hz]; exact Or.inr ⟨by decide, _, cl_L_113, by decide⟩) rfl (by decide) cl_L_115 ct_IS (hp := 505) (i := 5) (len := 2) rfl (Or.inr ⟨rfl, dL_act_505⟩) (by decide) ?_
      refine G_bipush (pc := 507) (v := -73) dL_act_507 (by first | rfl | decide) ?_
      refine G_iret (pc := 509) VZ.x dL_act_509 rfl ⟨by decide, by decide⟩ ?_
      have e := hx i9 _ _ h1 h2 h3
      rw [xc_IS] at e
      exact e
theorem act_5 {Γ : GTy} {Z : HS} {P : HS → FT → Prop} {F' : FT} {x y z b : Int32} {es : List String} {QV' : Option Value → HS → Prop} (hH : SH Z) (hop : Tt Γ M_X9_pass [.ref 800000, .int x] Z (QVo P Z F' b) (QXo P Z F' es)) (hes : ∀ E, E ∈ es → E = xIO ∨ E = xIA ∨ E = xIS) (hv : ∀ Z' : HS, F' 25 0 = nI 0 → P Z' F' → QV' (some (.int b)) Z') (hx : ∀ (i : Nat) (E : String) (Z' : HS), es[i]? = some E → F' 25 0 = nI (i + 1) → P Z' F' → QV' (some (.int (xc E))) Z') : Tw Γ M_L_act [.ref 800000, .int (nI 5), .int x, .int y, .int z] Z QV' noX := by
  refine Tw_of' rfl rfl ?_
  show G Γ M_L_act (rm M_L_act) (Vt Γ M_L_act QV' noX) (0, 0) 0 [some (.ref 800000), some (.int (nI 5)), some (.int x), some (.int y), some (.int z), none] [] Z
  refine G_iload_n (pc := 0) dL_act_0 rfl ?_
  refine G_if_neN (pc := 1) (tgt := 12) (by omega) dL_act_1 (by decide) (fun _ => ?_) (fun h => absurd h (by decide))
  refine G_iload_n (pc := 12) dL_act_12 rfl ?_
  refine G_iconst (pc := 13) (v := nI 1) dL_act_13 (by first | rfl | decide) ?_
  refine G_icmp_neN (pc := 14) (tgt := 26) (by omega) (by omega) dL_act_14 (by decide) (fun _ => ?_) (fun h => absurd h (by decide))
  refine G_iload_n (pc := 26) dL_act_26 rfl ?_
  refine G_iconst (pc := 27) (v := nI 2) dL_act_27 (by first | rfl | decide) ?_
  refine G_icmp_neN (pc := 28) (tgt := 39) (by omega) (by omega) dL_act_28 (by decide) (fun _ => ?_) (fun h => absurd h (by decide))
  refine G_iload_n (pc := 39) dL_act_39 rfl ?_
  refine G_iconst (pc := 40) (v := nI 3) dL_act_40 (by first | rfl | decide) ?_
  refine G_icmp_neN (pc := 41) (tgt := 52) (by omega) (by omega) dL_act_41 (by decide) (fun _ => ?_) (fun h => absurd h (by decide))
  refine G_iload_n (pc := 52) dL_act_52 rfl ?_
  refine G_iconst (pc := 53) (v := nI 4) dL_act_53 (by first | rfl | decide) ?_
  refine G_icmp_neN (pc := 54) (tgt := 65) (by omega) (by omega) dL_act_54 (by decide) (fun _ => ?_) (fun h => absurd h (by decide))
  refine G_iload_n (pc := 65) dL_act_65 rfl ?_
  refine G_iconst (pc := 66) (v := nI 5) dL_act_66 (by first | rfl | decide) ?_
  refine G_icmp_neN (pc := 67) (tgt := 78) (by omega) (by omega) dL_act_67 (by decide) (fun h => absurd h (by decide)) (fun _ => ?_)
  refine G_aload_n (pc := 70) dL_act_70 rfl ?_
  refine G_iload_n (pc := 71) dL_act_71 rfl ?_
  refine K_V1 (pc := 72) (k' := (2, 12)) mok_X9_pass lk_L_26 (sh_k hH) rfl rfl rfl (aok0 rfl) dL_act_72 (hop) rfl (fun v1 Y1 q1 => ?_) (fun E1 Y1 q1 => ?_)
  · obtain ⟨e1, e2, e3⟩ := q1; subst e1
    show G _ _ _ _ _ _ _ (_ :: _) _
    refine G_goto (pc := 75) (tgt := 494) dL_act_75 (by decide) ?_
    refine G_iret (pc := 494) VZ.x dL_act_494 rfl ⟨by decide, by decide⟩ ?_
    exact hv _ e2 e3
  · obtain ⟨i9, h1, h2, h3⟩ := q1
    rcases hes E1 (List.mem_of_getElem? h1) with rfl | rfl | rfl
    · refine GX_catch [] _ _ rfl (fun z hz => absurd hz List.not_mem_nil) rfl (by decide) cl_L_111 ct_IO (hp := 495) (i := 5) (len := 2) rfl (Or.inr ⟨rfl, dL_act_495⟩) (by decide) ?_
      refine G_bipush (pc := 497) (v := -71) dL_act_497 (by first | rfl | decide) ?_
      refine G_iret (pc := 499) VZ.x dL_act_499 rfl ⟨by decide, by decide⟩ ?_
      have e := hx i9 _ _ h1 h2 h3
      rw [xc_IO] at e
      exact e
    · refine GX_catch [_] _ _ rfl (fun z hz => by rw [List.mem_singleton.mp hz]; exact Or.inr ⟨by decide, _, cl_L_111, by decide⟩) rfl (by decide) cl_L_113 ct_IA (hp := 500) (i := 5) (len := 2) rfl (Or.inr ⟨rfl, dL_act_500⟩) (by decide) ?_
      refine G_bipush (pc := 502) (v := -72) dL_act_502 (by first | rfl | decide) ?_
      refine G_iret (pc := 504) VZ.x dL_act_504 rfl ⟨by decide, by decide⟩ ?_
      have e := hx i9 _ _ h1 h2 h3
      rw [xc_IA] at e
      exact e
    · refine GX_catch [_, _] _ _ rfl (fun z hz => by rcases List.mem_cons.mp hz with rfl | hz; exact Or.inr ⟨by decide, _, cl_L_111, by decide⟩; rw [List.mem_singleton.mp hz]; exact Or.inr ⟨by decide, _, cl_L_113, by decide⟩) rfl (by decide) cl_L_115 ct_IS (hp := 505) (i := 5) (len := 2) rfl (Or.inr ⟨rfl, dL_act_505⟩) (by decide) ?_
      refine G_bipush (pc := 507) (v := -73) dL_act_507 (by first | rfl | decide) ?_
      refine G_iret (pc := 509) VZ.x dL_act_509 rfl ⟨by decide, by decide⟩ ?_
      have e := hx i9 _ _ h1 h2 h3
      rw [xc_IS] at e
      exact e
theorem act_6 {Γ : GTy} {Z : HS} {P : HS → FT → Prop} {F' : FT} {x y z b : Int32} {es : List String} {QV' : Option Value → HS → Prop} (hH : SH Z) (hop : Tt Γ M_X9_begin [.ref 800000, .int x, .int y, .int z, .int (nI 1)] Z (QVo P Z F' b) (QXo P Z F' es)) (hes : ∀ E, E ∈ es → E = xIO ∨ E = xIA ∨ E = xIS) (hv : ∀ Z' : HS, F' 25 0 = nI 0 → P Z' F' → QV' (some (.int b)) Z') (hx : ∀ (i : Nat) (E : String) (Z' : HS), es[i]? = some E → F' 25 0 = nI (i + 1) → P Z' F' → QV' (some (.int (xc E))) Z') : Tw Γ M_L_act [.ref 800000, .int (nI 6), .int x, .int y, .int z] Z QV' noX := by
  refine Tw_of' rfl rfl ?_
  show G Γ M_L_act (rm M_L_act) (Vt Γ M_L_act QV' noX) (0, 0) 0 [some (.ref 800000), some (.int (nI 6)), some (.int x), some (.int y), some (.int z), none] [] Z
  refine G_iload_n (pc := 0) dL_act_0 rfl ?_
  refine G_if_neN (pc := 1) (tgt := 12) (by omega) dL_act_1 (by decide) (fun _ => ?_) (fun h => absurd h (by decide))
  refine G_iload_n (pc := 12) dL_act_12 rfl ?_
  refine G_iconst (pc := 13) (v := nI 1) dL_act_13 (by first | rfl | decide) ?_
  refine G_icmp_neN (pc := 14) (tgt := 26) (by omega) (by omega) dL_act_14 (by decide) (fun _ => ?_) (fun h => absurd h (by decide))
  refine G_iload_n (pc := 26) dL_act_26 rfl ?_
  refine G_iconst (pc := 27) (v := nI 2) dL_act_27 (by first | rfl | decide) ?_
  refine G_icmp_neN (pc := 28) (tgt := 39) (by omega) (by omega) dL_act_28 (by decide) (fun _ => ?_) (fun h => absurd h (by decide))
  refine G_iload_n (pc := 39) dL_act_39 rfl ?_
  refine G_iconst (pc := 40) (v := nI 3) dL_act_40 (by first | rfl | decide) ?_
  refine G_icmp_neN (pc := 41) (tgt := 52) (by omega) (by omega) dL_act_41 (by decide) (fun _ => ?_) (fun h => absurd h (by decide))
  refine G_iload_n (pc := 52) dL_act_52 rfl ?_
  refine G_iconst (pc := 53) (v := nI 4) dL_act_53 (by first | rfl | decide) ?_
  refine G_icmp_neN (pc := 54) (tgt := 65) (by omega) (by omega) dL_act_54 (by decide) (fun _ => ?_) (fun h => absurd h (by decide))
  refine G_iload_n (pc := 65) dL_act_65 rfl ?_
  refine G_iconst (pc := 66) (v := nI 5) dL_act_66 (by first | rfl | decide) ?_
  refine G_icmp_neN (pc := 67) (tgt := 78) (by omega) (by omega) dL_act_67 (by decide) (fun _ => ?_) (fun h => absurd h (by decide))
  refine G_iload_n (pc := 78) dL_act_78 rfl ?_
  refine G_bipush (pc := 79) (v := nI 6) dL_act_79 (by first | rfl | decide) ?_
  refine G_icmp_neN (pc := 81) (tgt := 96) (by omega) (by omega) dL_act_81 (by decide) (fun h => absurd h (by decide)) (fun _ => ?_)
  refine G_aload_n (pc := 84) dL_act_84 rfl ?_
  refine G_iload_n (pc := 85) dL_act_85 rfl ?_
  refine G_iload_n (pc := 86) dL_act_86 rfl ?_
  refine G_iload (pc := 87) dL_act_87 rfl ?_
  refine G_iconst (pc := 89) (v := nI 1) dL_act_89 (by first | rfl | decide) ?_
  refine K_V4 (pc := 90) (k' := (10, 64)) mok_X9_begin lk_L_29 (sh_k hH) rfl rfl rfl (fun _ => ⟨rfl, fun r hr => by rw [List.mem_singleton.mp (show r ∈ [800000] from hr), sh_k hH]; decide, fun _ hr => nomatch hr⟩) dL_act_90 (hop) rfl (fun v1 Y1 q1 => ?_) (fun E1 Y1 q1 => ?_)
  · obtain ⟨e1, e2, e3⟩ := q1; subst e1
    show G _ _ _ _ _ _ _ (_ :: _) _
    refine G_goto (pc := 93) (tgt := 494) dL_act_93 (by decide) ?_
    refine G_iret (pc := 494) VZ.x dL_act_494 rfl ⟨by decide, by decide⟩ ?_
    exact hv _ e2 e3
  · obtain ⟨i9, h1, h2, h3⟩ := q1
    rcases hes E1 (List.mem_of_getElem? h1) with rfl | rfl | rfl
    · refine GX_catch [] _ _ rfl (fun z hz => absurd hz List.not_mem_nil) rfl (by decide) cl_L_111 ct_IO (hp := 495) (i := 5) (len := 2) rfl (Or.inr ⟨rfl, dL_act_495⟩) (by decide) ?_
      refine G_bipush (pc := 497) (v := -71) dL_act_497 (by first | rfl | decide) ?_
      refine G_iret (pc := 499) VZ.x dL_act_499 rfl ⟨by decide, by decide⟩ ?_
      have e := hx i9 _ _ h1 h2 h3
      rw [xc_IO] at e
      exact e
    · refine GX_catch [_] _ _ rfl (fun z hz => by rw [List.mem_singleton.mp hz]; exact Or.inr ⟨by decide, _, cl_L_111, by decide⟩) rfl (by decide) cl_L_113 ct_IA (hp := 500) (i := 5) (len := 2) rfl (Or.inr ⟨rfl, dL_act_500⟩) (by decide) ?_
      refine G_bipush (pc := 502) (v := -72) dL_act_502 (by first | rfl | decide) ?_
      refine G_iret (pc := 504) VZ.x dL_act_504 rfl ⟨by decide, by decide⟩ ?_
      have e := hx i9 _ _ h1 h2 h3
      rw [xc_IA] at e
      exact e
    · refine GX_catch [_, _] _ _ rfl (fun z hz => by rcases List.mem_cons.mp hz with rfl | hz; exact Or.inr ⟨by decide, _, cl_L_111, by decide⟩; rw [List.mem_singleton.mp hz]; exact Or.inr ⟨by decide, _, cl_L_113, by decide⟩) rfl (by decide) cl_L_115 ct_IS (hp := 505) (i := 5) (len := 2) rfl (Or.inr ⟨rfl, dL_act_505⟩) (by decide) ?_
      refine G_bipush (pc := 507) (v := -73) dL_act_507 (by first | rfl | decide) ?_
      refine G_iret (pc := 509) VZ.x dL_act_509 rfl ⟨by decide, by decide⟩ ?_
      have e := hx i9 _ _ h1 h2 h3
      rw [xc_IS] at e
      exact e
theorem act_7 {Γ : GTy} {Z : HS} {P : HS → FT → Prop} {F' : FT} {x y z b : Int32} {es : List String} {QV' : Option Value → HS → Prop} (hH : SH Z) (hop : Tt Γ M_X9_begin [.ref 800000, .int x, .int y, .int z, .int (nI 0)] Z (QVo P Z F' b) (QXo P Z F' es)) (hes : ∀ E, E ∈ es → E = xIO ∨ E = xIA ∨ E = xIS) (hv : ∀ Z' : HS, F' 25 0 = nI 0 → P Z' F' → QV' (some (.int b)) Z') (hx : ∀ (i : Nat) (E : String) (Z' : HS), es[i]? = some E → F' 25 0 = nI (i + 1) → P Z' F' → QV' (some (.int (xc E))) Z') : Tw Γ M_L_act [.ref 800000, .int (nI 7), .int x, .int y, .int z] Z QV' noX := by
  refine Tw_of' rfl rfl ?_
  show G Γ M_L_act (rm M_L_act) (Vt Γ M_L_act QV' noX) (0, 0) 0 [some (.ref 800000), some (.int (nI 7)), some (.int x), some (.int y), some (.int z), none] [] Z
  refine G_iload_n (pc := 0) dL_act_0 rfl ?_
  refine G_if_neN (pc := 1) (tgt := 12) (by omega) dL_act_1 (by decide) (fun _ => ?_) (fun h => absurd h (by decide))
  refine G_iload_n (pc := 12) dL_act_12 rfl ?_
  refine G_iconst (pc := 13) (v := nI 1) dL_act_13 (by first | rfl | decide) ?_
  refine G_icmp_neN (pc := 14) (tgt := 26) (by omega) (by omega) dL_act_14 (by decide) (fun _ => ?_) (fun h => absurd h (by decide))
  refine G_iload_n (pc := 26) dL_act_26 rfl ?_
  refine G_iconst (pc := 27) (v := nI 2) dL_act_27 (by first | rfl | decide) ?_
  refine G_icmp_neN (pc := 28) (tgt := 39) (by omega) (by omega) dL_act_28 (by decide) (fun _ => ?_) (fun h => absurd h (by decide))
  refine G_iload_n (pc := 39) dL_act_39 rfl ?_
  refine G_iconst (pc := 40) (v := nI 3) dL_act_40 (by first | rfl | decide) ?_
  refine G_icmp_neN (pc := 41) (tgt := 52) (by omega) (by omega) dL_act_41 (by decide) (fun _ => ?_) (fun h => absurd h (by decide))
  refine G_iload_n (pc := 52) dL_act_52 rfl ?_
  refine G_iconst (pc := 53) (v := nI 4) dL_act_53 (by first | rfl | decide) ?_
  refine G_icmp_neN (pc := 54) (tgt := 65) (by omega) (by omega) dL_act_54 (by decide) (fun _ => ?_) (fun h => absurd h (by decide))
  refine G_iload_n (pc := 65) dL_act_65 rfl ?_
  refine G_iconst (pc := 66) (v := nI 5) dL_act_66 (by first | rfl | decide) ?_
  refine G_icmp_neN (pc := 67) (tgt := 78) (by omega) (by omega) dL_act_67 (by decide) (fun _ => ?_) (fun h => absurd h (by decide))
  refine G_iload_n (pc := 78) dL_act_78 rfl ?_
  refine G_bipush (pc := 79) (v := nI 6) dL_act_79 (by first | rfl | decide) ?_
  refine G_icmp_neN (pc := 81) (tgt := 96) (by omega) (by omega) dL_act_81 (by decide) (fun _ => ?_) (fun h => absurd h (by decide))
  refine G_iload_n (pc := 96) dL_act_96 rfl ?_
  refine G_bipush (pc := 97) (v := nI 7) dL_act_97 (by first | rfl | decide) ?_
  refine G_icmp_neN (pc := 99) (tgt := 114) (by omega) (by omega) dL_act_99 (by decide) (fun h => absurd h (by decide)) (fun _ => ?_)
  refine G_aload_n (pc := 102) dL_act_102 rfl ?_
  refine G_iload_n (pc := 103) dL_act_103 rfl ?_
  refine G_iload_n (pc := 104) dL_act_104 rfl ?_
  refine G_iload (pc := 105) dL_act_105 rfl ?_
  refine G_iconst (pc := 107) (v := nI 0) dL_act_107 (by first | rfl | decide) ?_
  refine K_V4 (pc := 108) (k' := (10, 64)) mok_X9_begin lk_L_29 (sh_k hH) rfl rfl rfl (fun _ => ⟨rfl, fun r hr => by rw [List.mem_singleton.mp (show r ∈ [800000] from hr), sh_k hH]; decide, fun _ hr => nomatch hr⟩) dL_act_108 (hop) rfl (fun v1 Y1 q1 => ?_) (fun E1 Y1 q1 => ?_)
  · obtain ⟨e1, e2, e3⟩ := q1; subst e1
    show G _ _ _ _ _ _ _ (_ :: _) _
    refine G_goto (pc := 111) (tgt := 494) dL_act_111 (by decide) ?_
    refine G_iret (pc := 494) VZ.x dL_act_494 rfl ⟨by decide, by decide⟩ ?_
    exact hv _ e2 e3
  · obtain ⟨i9, h1, h2, h3⟩ := q1
    rcases hes E1 (List.mem_of_getElem? h1) with rfl | rfl | rfl
    · refine GX_catch [] _ _ rfl (fun z hz => absurd hz List.not_mem_nil) rfl (by decide) cl_L_111 ct_IO (hp := 495) (i := 5) (len := 2) rfl (Or.inr ⟨rfl, dL_act_495⟩) (by decide) ?_
      refine G_bipush (pc := 497) (v := -71) dL_act_497 (by first | rfl | decide) ?_
      refine G_iret (pc := 499) VZ.x dL_act_499 rfl ⟨by decide, by decide⟩ ?_
      have e := hx i9 _ _ h1 h2 h3
      rw [xc_IO] at e
      exact e
    · refine GX_catch [_] _ _ rfl (fun z hz => by rw [List.mem_singleton.mp hz]; exact Or.inr ⟨by decide, _, cl_L_111, by decide⟩) rfl (by decide) cl_L_113 ct_IA (hp := 500) (i := 5) (len := 2) rfl (Or.inr ⟨rfl, dL_act_500⟩) (by decide) ?_
      refine G_bipush (pc := 502) (v := -72) dL_act_502 (by first | rfl | decide) ?_
      refine G_iret (pc := 504) VZ.x dL_act_504 rfl ⟨by decide, by decide⟩ ?_
      have e := hx i9 _ _ h1 h2 h3
      rw [xc_IA] at e
      exact e
    · refine GX_catch [_, _] _ _ rfl (fun z hz => by rcases List.mem_cons.mp hz with rfl | hz; exact Or.inr ⟨by decide, _, cl_L_111, by decide⟩; rw [List.mem_singleton.mp hz]; exact Or.inr ⟨by decide, _, cl_L_113, by decide⟩) rfl (by decide) cl_L_115 ct_IS (hp := 505) (i := 5) (len := 2) rfl (Or.inr ⟨rfl, dL_act_505⟩) (by decide) ?_
      refine G_bipush (pc := 507) (v := -73) dL_act_507 (by first | rfl | decide) ?_
      refine G_iret (pc := 509) VZ.x dL_act_509 rfl ⟨by decide, by decide⟩ ?_
      have e := hx i9 _ _ h1 h2 h3
      rw [xc_IS] at e
      exact e
theorem act_8 {Γ : GTy} {Z : HS} {P : HS → FT → Prop} {F' : FT} {x y z b : Int32} {es : List String} {QV' : Option Value → HS → Prop} (hH : SH Z) (hop : Tt Γ M_X9_resume [.ref 800000, .int x, .int y] Z (QVo P Z F' b) (QXo P Z F' es)) (hes : ∀ E, E ∈ es → E = xIO ∨ E = xIA ∨ E = xIS) (hv : ∀ Z' : HS, F' 25 0 = nI 0 → P Z' F' → QV' (some (.int b)) Z') (hx : ∀ (i : Nat) (E : String) (Z' : HS), es[i]? = some E → F' 25 0 = nI (i + 1) → P Z' F' → QV' (some (.int (xc E))) Z') : Tw Γ M_L_act [.ref 800000, .int (nI 8), .int x, .int y, .int z] Z QV' noX := by
  refine Tw_of' rfl rfl ?_
  show G Γ M_L_act (rm M_L_act) (Vt Γ M_L_act QV' noX) (0, 0) 0 [some (.ref 800000), some (.int (nI 8)), some (.int x), some (.int y), some (.int z), none] [] Z
  refine G_iload_n (pc := 0) dL_act_0 rfl ?_
  refine G_if_neN (pc := 1) (tgt := 12) (by omega) dL_act_1 (by decide) (fun _ => ?_) (fun h => absurd h (by decide))
  refine G_iload_n (pc := 12) dL_act_12 rfl ?_
  refine G_iconst (pc := 13) (v := nI 1) dL_act_13 (by first | rfl | decide) ?_
  refine G_icmp_neN (pc := 14) (tgt := 26) (by omega) (by omega) dL_act_14 (by decide) (fun _ => ?_) (fun h => absurd h (by decide))
  refine G_iload_n (pc := 26) dL_act_26 rfl ?_
  refine G_iconst (pc := 27) (v := nI 2) dL_act_27 (by first | rfl | decide) ?_
  refine G_icmp_neN (pc := 28) (tgt := 39) (by omega) (by omega) dL_act_28 (by decide) (fun _ => ?_) (fun h => absurd h (by decide))
  refine G_iload_n (pc := 39) dL_act_39 rfl ?_
  refine G_iconst (pc := 40) (v := nI 3) dL_act_40 (by first | rfl | decide) ?_
  refine G_icmp_neN (pc := 41) (tgt := 52) (by omega) (by omega) dL_act_41 (by decide) (fun _ => ?_) (fun h => absurd h (by decide))
  refine G_iload_n (pc := 52) dL_act_52 rfl ?_
  refine G_iconst (pc := 53) (v := nI 4) dL_act_53 (by first | rfl | decide) ?_
  refine G_icmp_neN (pc := 54) (tgt := 65) (by omega) (by omega) dL_act_54 (by decide) (fun _ => ?_) (fun h => absurd h (by decide))
  refine G_iload_n (pc := 65) dL_act_65 rfl ?_
  refine G_iconst (pc := 66) (v := nI 5) dL_act_66 (by first | rfl | decide) ?_
  refine G_icmp_neN (pc := 67) (tgt := 78) (by omega) (by omega) dL_act_67 (by decide) (fun _ => ?_) (fun h => absurd h (by decide))
  refine G_iload_n (pc := 78) dL_act_78 rfl ?_
  refine G_bipush (pc := 79) (v := nI 6) dL_act_79 (by first | rfl | decide) ?_
  refine G_icmp_neN (pc := 81) (tgt := 96) (by omega) (by omega) dL_act_81 (by decide) (fun _ => ?_) (fun h => absurd h (by decide))
  refine G_iload_n (pc := 96) dL_act_96 rfl ?_
  refine G_bipush (pc := 97) (v := nI 7) dL_act_97 (by first | rfl | decide) ?_
  refine G_icmp_neN (pc := 99) (tgt := 114) (by omega) (by omega) dL_act_99 (by decide) (fun _ => ?_) (fun h => absurd h (by decide))
  refine G_iload_n (pc := 114) dL_act_114 rfl ?_
  refine G_bipush (pc := 115) (v := nI 8) dL_act_115 (by first | rfl | decide) ?_
  refine G_icmp_neN (pc := 117) (tgt := 129) (by omega) (by omega) dL_act_117 (by decide) (fun h => absurd h (by decide)) (fun _ => ?_)
  refine G_aload_n (pc := 120) dL_act_120 rfl ?_
  refine G_iload_n (pc := 121) dL_act_121 rfl ?_
  refine G_iload_n (pc := 122) dL_act_122 rfl ?_
  refine K_V2 (pc := 123) (k' := (6, 33)) mok_X9_resume lk_L_33 (sh_k hH) rfl rfl rfl (fun _ => ⟨rfl, fun r hr => by rw [List.mem_singleton.mp (show r ∈ [800000] from hr), sh_k hH]; decide, fun _ hr => nomatch hr⟩) dL_act_123 (hop) rfl (fun v1 Y1 q1 => ?_) (fun E1 Y1 q1 => ?_)
  · obtain ⟨e1, e2, e3⟩ := q1; subst e1
    show G _ _ _ _ _ _ _ (_ :: _) _
    refine G_goto (pc := 126) (tgt := 494) dL_act_126 (by decide) ?_
    refine G_iret (pc := 494) VZ.x dL_act_494 rfl ⟨by decide, by decide⟩ ?_
    exact hv _ e2 e3
  · obtain ⟨i9, h1, h2, h3⟩ := q1
    rcases hes E1 (List.mem_of_getElem? h1) with rfl | rfl | rfl
    · refine GX_catch [] _ _ rfl (fun z hz => absurd hz List.not_mem_nil) rfl (by decide) cl_L_111 ct_IO (hp := 495) (i := 5) (len := 2) rfl (Or.inr ⟨rfl, dL_act_495⟩) (by decide) ?_
      refine G_bipush (pc := 497) (v := -71) dL_act_497 (by first | rfl | decide) ?_
      refine G_iret (pc := 499) VZ.x dL_act_499 rfl ⟨by decide, by decide⟩ ?_
      have e := hx i9 _ _ h1 h2 h3
      rw [xc_IO] at e
      exact e
    · refine GX_catch [_] _ _ rfl (fun z hz => by rw [List.mem_singleton.mp hz]; exact Or.inr ⟨by decide, _, cl_L_111, by decide⟩) rfl (by decide) cl_L_113 ct_IA (hp := 500) (i := 5) (len := 2) rfl (Or.inr ⟨rfl, dL_act_500⟩) (by decide) ?_
      refine G_bipush (pc := 502) (v := -72) dL_act_502 (by first | rfl | decide) ?_
      refine G_iret (pc := 504) VZ.x dL_act_504 rfl ⟨by decide, by decide⟩ ?_
      have e := hx i9 _ _ h1 h2 h3
      rw [xc_IA] at e
      exact e
    · refine GX_catch [_, _] _ _ rfl (fun z hz => by rcases List.mem_cons.mp hz with rfl | hz; exact Or.inr ⟨by decide, _, cl_L_111, by decide⟩; rw [List.mem_singleton.mp hz]; exact Or.inr ⟨by decide, _, cl_L_113, by decide⟩) rfl (by decide) cl_L_115 ct_IS (hp := 505) (i := 5) (len := 2) rfl (Or.inr ⟨rfl, dL_act_505⟩) (by decide) ?_
      refine G_bipush (pc := 507) (v := -73) dL_act_507 (by first | rfl | decide) ?_
      refine G_iret (pc := 509) VZ.x dL_act_509 rfl ⟨by decide, by decide⟩ ?_
      have e := hx i9 _ _ h1 h2 h3
      rw [xc_IS] at e
      exact e
theorem act_9 {Γ : GTy} {Z : HS} {P : HS → FT → Prop} {F' : FT} {x y z b : Int32} {es : List String} {QV' : Option Value → HS → Prop} (hH : SH Z) (hop : Tt Γ M_X9_shoot [.ref 800000, .int x, .int y, .int z] Z (QVo P Z F' b) (QXo P Z F' es)) (hes : ∀ E, E ∈ es → E = xIO ∨ E = xIA ∨ E = xIS) (hv : ∀ Z' : HS, F' 25 0 = nI 0 → P Z' F' → QV' (some (.int b)) Z') (hx : ∀ (i : Nat) (E : String) (Z' : HS), es[i]? = some E → F' 25 0 = nI (i + 1) → P Z' F' → QV' (some (.int (xc E))) Z') : Tw Γ M_L_act [.ref 800000, .int (nI 9), .int x, .int y, .int z] Z QV' noX := by
  refine Tw_of' rfl rfl ?_
  show G Γ M_L_act (rm M_L_act) (Vt Γ M_L_act QV' noX) (0, 0) 0 [some (.ref 800000), some (.int (nI 9)), some (.int x), some (.int y), some (.int z), none] [] Z
  refine G_iload_n (pc := 0) dL_act_0 rfl ?_
  refine G_if_neN (pc := 1) (tgt := 12) (by omega) dL_act_1 (by decide) (fun _ => ?_) (fun h => absurd h (by decide))
  refine G_iload_n (pc := 12) dL_act_12 rfl ?_
  refine G_iconst (pc := 13) (v := nI 1) dL_act_13 (by first | rfl | decide) ?_
  refine G_icmp_neN (pc := 14) (tgt := 26) (by omega) (by omega) dL_act_14 (by decide) (fun _ => ?_) (fun h => absurd h (by decide))
  refine G_iload_n (pc := 26) dL_act_26 rfl ?_
  refine G_iconst (pc := 27) (v := nI 2) dL_act_27 (by first | rfl | decide) ?_
  refine G_icmp_neN (pc := 28) (tgt := 39) (by omega) (by omega) dL_act_28 (by decide) (fun _ => ?_) (fun h => absurd h (by decide))
  refine G_iload_n (pc := 39) dL_act_39 rfl ?_
  refine G_iconst (pc := 40) (v := nI 3) dL_act_40 (by first | rfl | decide) ?_
  refine G_icmp_neN (pc := 41) (tgt := 52) (by omega) (by omega) dL_act_41 (by decide) (fun _ => ?_) (fun h => absurd h (by decide))
  refine G_iload_n (pc := 52) dL_act_52 rfl ?_
  refine G_iconst (pc := 53) (v := nI 4) dL_act_53 (by first | rfl | decide) ?_
  refine G_icmp_neN (pc := 54) (tgt := 65) (by omega) (by omega) dL_act_54 (by decide) (fun _ => ?_) (fun h => absurd h (by decide))
  refine G_iload_n (pc := 65) dL_act_65 rfl ?_
  refine G_iconst (pc := 66) (v := nI 5) dL_act_66 (by first | rfl | decide) ?_
  refine G_icmp_neN (pc := 67) (tgt := 78) (by omega) (by omega) dL_act_67 (by decide) (fun _ => ?_) (fun h => absurd h (by decide))
  refine G_iload_n (pc := 78) dL_act_78 rfl ?_
  refine G_bipush (pc := 79) (v := nI 6) dL_act_79 (by first | rfl | decide) ?_
  refine G_icmp_neN (pc := 81) (tgt := 96) (by omega) (by omega) dL_act_81 (by decide) (fun _ => ?_) (fun h => absurd h (by decide))
  refine G_iload_n (pc := 96) dL_act_96 rfl ?_
  refine G_bipush (pc := 97) (v := nI 7) dL_act_97 (by first | rfl | decide) ?_
  refine G_icmp_neN (pc := 99) (tgt := 114) (by omega) (by omega) dL_act_99 (by decide) (fun _ => ?_) (fun h => absurd h (by decide))
  refine G_iload_n (pc := 114) dL_act_114 rfl ?_
  refine G_bipush (pc := 115) (v := nI 8) dL_act_115 (by first | rfl | decide) ?_
  refine G_icmp_neN (pc := 117) (tgt := 129) (by omega) (by omega) dL_act_117 (by decide) (fun _ => ?_) (fun h => absurd h (by decide))
  refine G_iload_n (pc := 129) dL_act_129 rfl ?_
  refine G_bipush (pc := 130) (v := nI 9) dL_act_130 (by first | rfl | decide) ?_
  refine G_icmp_neN (pc := 132) (tgt := 146) (by omega) (by omega) dL_act_132 (by decide) (fun h => absurd h (by decide)) (fun _ => ?_)
  refine G_aload_n (pc := 135) dL_act_135 rfl ?_
  refine G_iload_n (pc := 136) dL_act_136 rfl ?_
  refine G_iload_n (pc := 137) dL_act_137 rfl ?_
  refine G_iload (pc := 138) dL_act_138 rfl ?_
  refine K_V3 (pc := 140) (k' := (4, 24)) mok_X9_shoot lk_L_36 (sh_k hH) rfl rfl rfl (aok0 rfl) dL_act_140 (hop) rfl (fun v1 Y1 q1 => ?_) (fun E1 Y1 q1 => ?_)
  · obtain ⟨e1, e2, e3⟩ := q1; subst e1
    show G _ _ _ _ _ _ _ (_ :: _) _
    refine G_goto (pc := 143) (tgt := 494) dL_act_143 (by decide) ?_
    refine G_iret (pc := 494) VZ.x dL_act_494 rfl ⟨by decide, by decide⟩ ?_
    exact hv _ e2 e3
  · obtain ⟨i9, h1, h2, h3⟩ := q1
    rcases hes E1 (List.mem_of_getElem? h1) with rfl | rfl | rfl
    · refine GX_catch [] _ _ rfl (fun z hz => absurd hz List.not_mem_nil) rfl (by decide) cl_L_111 ct_IO (hp := 495) (i := 5) (len := 2) rfl (Or.inr ⟨rfl, dL_act_495⟩) (by decide) ?_
      refine G_bipush (pc := 497) (v := -71) dL_act_497 (by first | rfl | decide) ?_
      refine G_iret (pc := 499) VZ.x dL_act_499 rfl ⟨by decide, by decide⟩ ?_
      have e := hx i9 _ _ h1 h2 h3
      rw [xc_IO] at e
      exact e
    · refine GX_catch [_] _ _ rfl (fun z hz => by rw [List.mem_singleton.mp hz]; exact Or.inr ⟨by decide, _, cl_L_111, by decide⟩) rfl (by decide) cl_L_113 ct_IA (hp := 500) (i := 5) (len := 2) rfl (Or.inr ⟨rfl, dL_act_500⟩) (by decide) ?_
      refine G_bipush (pc := 502) (v := -72) dL_act_502 (by first | rfl | decide) ?_
      refine G_iret (pc := 504) VZ.x dL_act_504 rfl ⟨by decide, by decide⟩ ?_
      have e := hx i9 _ _ h1 h2 h3
      rw [xc_IA] at e
      exact e
    · refine GX_catch [_, _] _ _ rfl (fun z hz => by rcases List.mem_cons.mp hz with rfl | hz; exact Or.inr ⟨by decide, _, cl_L_111, by decide⟩; rw [List.mem_singleton.mp hz]; exact Or.inr ⟨by decide, _, cl_L_113, by decide⟩) rfl (by decide) cl_L_115 ct_IS (hp := 505) (i := 5) (len := 2) rfl (Or.inr ⟨rfl, dL_act_505⟩) (by decide) ?_
      refine G_bipush (pc := 507) (v := -73) dL_act_507 (by first | rfl | decide) ?_
      refine G_iret (pc := 509) VZ.x dL_act_509 rfl ⟨by decide, by decide⟩ ?_
      have e := hx i9 _ _ h1 h2 h3
      rw [xc_IS] at e
      exact e
theorem act_10 {Γ : GTy} {Z : HS} {P : HS → FT → Prop} {F' : FT} {x y z b : Int32} {es : List String} {QV' : Option Value → HS → Prop} (hH : SH Z) (hop : Tt Γ M_X9_lend [.ref 800000, .int x, .int y] Z (QVo P Z F' b) (QXo P Z F' es)) (hes : ∀ E, E ∈ es → E = xIO ∨ E = xIA ∨ E = xIS) (hv : ∀ Z' : HS, F' 25 0 = nI 0 → P Z' F' → QV' (some (.int b)) Z') (hx : ∀ (i : Nat) (E : String) (Z' : HS), es[i]? = some E → F' 25 0 = nI (i + 1) → P Z' F' → QV' (some (.int (xc E))) Z') : Tw Γ M_L_act [.ref 800000, .int (nI 10), .int x, .int y, .int z] Z QV' noX := by
  refine Tw_of' rfl rfl ?_
  show G Γ M_L_act (rm M_L_act) (Vt Γ M_L_act QV' noX) (0, 0) 0 [some (.ref 800000), some (.int (nI 10)), some (.int x), some (.int y), some (.int z), none] [] Z
  refine G_iload_n (pc := 0) dL_act_0 rfl ?_
  refine G_if_neN (pc := 1) (tgt := 12) (by omega) dL_act_1 (by decide) (fun _ => ?_) (fun h => absurd h (by decide))
  refine G_iload_n (pc := 12) dL_act_12 rfl ?_
  refine G_iconst (pc := 13) (v := nI 1) dL_act_13 (by first | rfl | decide) ?_
  refine G_icmp_neN (pc := 14) (tgt := 26) (by omega) (by omega) dL_act_14 (by decide) (fun _ => ?_) (fun h => absurd h (by decide))
  refine G_iload_n (pc := 26) dL_act_26 rfl ?_
  refine G_iconst (pc := 27) (v := nI 2) dL_act_27 (by first | rfl | decide) ?_
  refine G_icmp_neN (pc := 28) (tgt := 39) (by omega) (by omega) dL_act_28 (by decide) (fun _ => ?_) (fun h => absurd h (by decide))
  refine G_iload_n (pc := 39) dL_act_39 rfl ?_
  refine G_iconst (pc := 40) (v := nI 3) dL_act_40 (by first | rfl | decide) ?_
  refine G_icmp_neN (pc := 41) (tgt := 52) (by omega) (by omega) dL_act_41 (by decide) (fun _ => ?_) (fun h => absurd h (by decide))
  refine G_iload_n (pc := 52) dL_act_52 rfl ?_
  refine G_iconst (pc := 53) (v := nI 4) dL_act_53 (by first | rfl | decide) ?_
  refine G_icmp_neN (pc := 54) (tgt := 65) (by omega) (by omega) dL_act_54 (by decide) (fun _ => ?_) (fun h => absurd h (by decide))
  refine G_iload_n (pc := 65) dL_act_65 rfl ?_
  refine G_iconst (pc := 66) (v := nI 5) dL_act_66 (by first | rfl | decide) ?_
  refine G_icmp_neN (pc := 67) (tgt := 78) (by omega) (by omega) dL_act_67 (by decide) (fun _ => ?_) (fun h => absurd h (by decide))
  refine G_iload_n (pc := 78) dL_act_78 rfl ?_
  refine G_bipush (pc := 79) (v := nI 6) dL_act_79 (by first | rfl | decide) ?_
  refine G_icmp_neN (pc := 81) (tgt := 96) (by omega) (by omega) dL_act_81 (by decide) (fun _ => ?_) (fun h => absurd h (by decide))
  refine G_iload_n (pc := 96) dL_act_96 rfl ?_
  refine G_bipush (pc := 97) (v := nI 7) dL_act_97 (by first | rfl | decide) ?_
  refine G_icmp_neN (pc := 99) (tgt := 114) (by omega) (by omega) dL_act_99 (by decide) (fun _ => ?_) (fun h => absurd h (by decide))
  refine G_iload_n (pc := 114) dL_act_114 rfl ?_
  refine G_bipush (pc := 115) (v := nI 8) dL_act_115 (by first | rfl | decide) ?_
  refine G_icmp_neN (pc := 117) (tgt := 129) (by omega) (by omega) dL_act_117 (by decide) (fun _ => ?_) (fun h => absurd h (by decide))
  refine G_iload_n (pc := 129) dL_act_129 rfl ?_
  refine G_bipush (pc := 130) (v := nI 9) dL_act_130 (by first | rfl | decide) ?_
  refine G_icmp_neN (pc := 132) (tgt := 146) (by omega) (by omega) dL_act_132 (by decide) (fun _ => ?_) (fun h => absurd h (by decide))
  refine G_iload_n (pc := 146) dL_act_146 rfl ?_
  refine G_bipush (pc := 147) (v := nI 10) dL_act_147 (by first | rfl | decide) ?_
  refine G_icmp_neN (pc := 149) (tgt := 161) (by omega) (by omega) dL_act_149 (by decide) (fun h => absurd h (by decide)) (fun _ => ?_)
  refine G_aload_n (pc := 152) dL_act_152 rfl ?_
  refine G_iload_n (pc := 153) dL_act_153 rfl ?_
  refine G_iload_n (pc := 154) dL_act_154 rfl ?_
  refine K_V2 (pc := 155) (k' := (4, 21)) mok_X9_lend lk_L_40 (sh_k hH) rfl rfl rfl (fun _ => ⟨rfl, fun r hr => by rw [List.mem_singleton.mp (show r ∈ [800000] from hr), sh_k hH]; decide, fun _ hr => nomatch hr⟩) dL_act_155 (hop) rfl (fun v1 Y1 q1 => ?_) (fun E1 Y1 q1 => ?_)
  · obtain ⟨e1, e2, e3⟩ := q1; subst e1
    show G _ _ _ _ _ _ _ (_ :: _) _
    refine G_goto (pc := 158) (tgt := 494) dL_act_158 (by decide) ?_
    refine G_iret (pc := 494) VZ.x dL_act_494 rfl ⟨by decide, by decide⟩ ?_
    exact hv _ e2 e3
  · obtain ⟨i9, h1, h2, h3⟩ := q1
    rcases hes E1 (List.mem_of_getElem? h1) with rfl | rfl | rfl
    · refine GX_catch [] _ _ rfl (fun z hz => absurd hz List.not_mem_nil) rfl (by decide) cl_L_111 ct_IO (hp := 495) (i := 5) (len := 2) rfl (Or.inr ⟨rfl, dL_act_495⟩) (by decide) ?_
      refine G_bipush (pc := 497) (v := -71) dL_act_497 (by first | rfl | decide) ?_
      refine G_iret (pc := 499) VZ.x dL_act_499 rfl ⟨by decide, by decide⟩ ?_
      have e := hx i9 _ _ h1 h2 h3
      rw [xc_IO] at e
      exact e
    · refine GX_catch [_] _ _ rfl (fun z hz => by rw [List.mem_singleton.mp hz]; exact Or.inr ⟨by decide, _, cl_L_111, by decide⟩) rfl (by decide) cl_L_113 ct_IA (hp := 500) (i := 5) (len := 2) rfl (Or.inr ⟨rfl, dL_act_500⟩) (by decide) ?_
      refine G_bipush (pc := 502) (v := -72) dL_act_502 (by first | rfl | decide) ?_
      refine G_iret (pc := 504) VZ.x dL_act_504 rfl ⟨by decide, by decide⟩ ?_
      have e := hx i9 _ _ h1 h2 h3
      rw [xc_IA] at e
      exact e
    · refine GX_catch [_, _] _ _ rfl (fun z hz => by rcases List.mem_cons.mp hz with rfl | hz; exact Or.inr ⟨by decide, _, cl_L_111, by decide⟩; rw [List.mem_singleton.mp hz]; exact Or.inr ⟨by decide, _, cl_L_113, by decide⟩) rfl (by decide) cl_L_115 ct_IS (hp := 505) (i := 5) (len := 2) rfl (Or.inr ⟨rfl, dL_act_505⟩) (by decide) ?_
      refine G_bipush (pc := 507) (v := -73) dL_act_507 (by first | rfl | decide) ?_
      refine G_iret (pc := 509) VZ.x dL_act_509 rfl ⟨by decide, by decide⟩ ?_
      have e := hx i9 _ _ h1 h2 h3
      rw [xc_IS] at e
      exact e
theorem act_11 {Γ : GTy} {Z : HS} {P : HS → FT → Prop} {F' : FT} {x y z b : Int32} {es : List String} {QV' : Option Value → HS → Prop} (hH : SH Z) (hop : Tt Γ M_X9_takeBack [.ref 800000, .int x] Z (QVo P Z F' b) (QXo P Z F' es)) (hes : ∀ E, E ∈ es → E = xIO ∨ E = xIA ∨ E = xIS) (hv : ∀ Z' : HS, F' 25 0 = nI 0 → P Z' F' → QV' (some (.int b)) Z') (hx : ∀ (i : Nat) (E : String) (Z' : HS), es[i]? = some E → F' 25 0 = nI (i + 1) → P Z' F' → QV' (some (.int (xc E))) Z') : Tw Γ M_L_act [.ref 800000, .int (nI 11), .int x, .int y, .int z] Z QV' noX := by
  refine Tw_of' rfl rfl ?_
  show G Γ M_L_act (rm M_L_act) (Vt Γ M_L_act QV' noX) (0, 0) 0 [some (.ref 800000), some (.int (nI 11)), some (.int x), some (.int y), some (.int z), none] [] Z
  refine G_iload_n (pc := 0) dL_act_0 rfl ?_
  refine G_if_neN (pc := 1) (tgt := 12) (by omega) dL_act_1 (by decide) (fun _ => ?_) (fun h => absurd h (by decide))
  refine G_iload_n (pc := 12) dL_act_12 rfl ?_
  refine G_iconst (pc := 13) (v := nI 1) dL_act_13 (by first | rfl | decide) ?_
  refine G_icmp_neN (pc := 14) (tgt := 26) (by omega) (by omega) dL_act_14 (by decide) (fun _ => ?_) (fun h => absurd h (by decide))
  refine G_iload_n (pc := 26) dL_act_26 rfl ?_
  refine G_iconst (pc := 27) (v := nI 2) dL_act_27 (by first | rfl | decide) ?_
  refine G_icmp_neN (pc := 28) (tgt := 39) (by omega) (by omega) dL_act_28 (by decide) (fun _ => ?_) (fun h => absurd h (by decide))
  refine G_iload_n (pc := 39) dL_act_39 rfl ?_
  refine G_iconst (pc := 40) (v := nI 3) dL_act_40 (by first | rfl | decide) ?_
  refine G_icmp_neN (pc := 41) (tgt := 52) (by omega) (by omega) dL_act_41 (by decide) (fun _ => ?_) (fun h => absurd h (by decide))
  refine G_iload_n (pc := 52) dL_act_52 rfl ?_
  refine G_iconst (pc := 53) (v := nI 4) dL_act_53 (by first | rfl | decide) ?_
  refine G_icmp_neN (pc := 54) (tgt := 65) (by omega) (by omega) dL_act_54 (by decide) (fun _ => ?_) (fun h => absurd h (by decide))
  refine G_iload_n (pc := 65) dL_act_65 rfl ?_
  refine G_iconst (pc := 66) (v := nI 5) dL_act_66 (by first | rfl | decide) ?_
  refine G_icmp_neN (pc := 67) (tgt := 78) (by omega) (by omega) dL_act_67 (by decide) (fun _ => ?_) (fun h => absurd h (by decide))
  refine G_iload_n (pc := 78) dL_act_78 rfl ?_
  refine G_bipush (pc := 79) (v := nI 6) dL_act_79 (by first | rfl | decide) ?_
  refine G_icmp_neN (pc := 81) (tgt := 96) (by omega) (by omega) dL_act_81 (by decide) (fun _ => ?_) (fun h => absurd h (by decide))
  refine G_iload_n (pc := 96) dL_act_96 rfl ?_
  refine G_bipush (pc := 97) (v := nI 7) dL_act_97 (by first | rfl | decide) ?_
  refine G_icmp_neN (pc := 99) (tgt := 114) (by omega) (by omega) dL_act_99 (by decide) (fun _ => ?_) (fun h => absurd h (by decide))
  refine G_iload_n (pc := 114) dL_act_114 rfl ?_
  refine G_bipush (pc := 115) (v := nI 8) dL_act_115 (by first | rfl | decide) ?_
  refine G_icmp_neN (pc := 117) (tgt := 129) (by omega) (by omega) dL_act_117 (by decide) (fun _ => ?_) (fun h => absurd h (by decide))
  refine G_iload_n (pc := 129) dL_act_129 rfl ?_
  refine G_bipush (pc := 130) (v := nI 9) dL_act_130 (by first | rfl | decide) ?_
  refine G_icmp_neN (pc := 132) (tgt := 146) (by omega) (by omega) dL_act_132 (by decide) (fun _ => ?_) (fun h => absurd h (by decide))
  refine G_iload_n (pc := 146) dL_act_146 rfl ?_
  refine G_bipush (pc := 147) (v := nI 10) dL_act_147 (by first | rfl | decide) ?_
  refine G_icmp_neN (pc := 149) (tgt := 161) (by omega) (by omega) dL_act_149 (by decide) (fun _ => ?_) (fun h => absurd h (by decide))
  refine G_iload_n (pc := 161) dL_act_161 rfl ?_
  refine G_bipush (pc := 162) (v := nI 11) dL_act_162 (by first | rfl | decide) ?_
  refine G_icmp_neN (pc := 164) (tgt := 175) (by omega) (by omega) dL_act_164 (by decide) (fun h => absurd h (by decide)) (fun _ => ?_)
  refine G_aload_n (pc := 167) dL_act_167 rfl ?_
  refine G_iload_n (pc := 168) dL_act_168 rfl ?_
  refine K_V1 (pc := 169) (k' := (2, 12)) mok_X9_takeBack lk_L_43 (sh_k hH) rfl rfl rfl (aok0 rfl) dL_act_169 (hop) rfl (fun v1 Y1 q1 => ?_) (fun E1 Y1 q1 => ?_)
  · obtain ⟨e1, e2, e3⟩ := q1; subst e1
    show G _ _ _ _ _ _ _ (_ :: _) _
    refine G_goto (pc := 172) (tgt := 494) dL_act_172 (by decide) ?_
    refine G_iret (pc := 494) VZ.x dL_act_494 rfl ⟨by decide, by decide⟩ ?_
    exact hv _ e2 e3
  · obtain ⟨i9, h1, h2, h3⟩ := q1
    rcases hes E1 (List.mem_of_getElem? h1) with rfl | rfl | rfl
    · refine GX_catch [] _ _ rfl (fun z hz => absurd hz List.not_mem_nil) rfl (by decide) cl_L_111 ct_IO (hp := 495) (i := 5) (len := 2) rfl (Or.inr ⟨rfl, dL_act_495⟩) (by decide) ?_
      refine G_bipush (pc := 497) (v := -71) dL_act_497 (by first | rfl | decide) ?_
      refine G_iret (pc := 499) VZ.x dL_act_499 rfl ⟨by decide, by decide⟩ ?_
      have e := hx i9 _ _ h1 h2 h3
      rw [xc_IO] at e
      exact e
    · refine GX_catch [_] _ _ rfl (fun z hz => by rw [List.mem_singleton.mp hz]; exact Or.inr ⟨by decide, _, cl_L_111, by decide⟩) rfl (by decide) cl_L_113 ct_IA (hp := 500) (i := 5) (len := 2) rfl (Or.inr ⟨rfl, dL_act_500⟩) (by decide) ?_
      refine G_bipush (pc := 502) (v := -72) dL_act_502 (by first | rfl | decide) ?_
      refine G_iret (pc := 504) VZ.x dL_act_504 rfl ⟨by decide, by decide⟩ ?_
      have e := hx i9 _ _ h1 h2 h3
      rw [xc_IA] at e
      exact e
    · refine GX_catch [_, _] _ _ rfl (fun z hz => by rcases List.mem_cons.mp hz with rfl | hz; exact Or.inr ⟨by decide, _, cl_L_111, by decide⟩; rw [List.mem_singleton.mp hz]; exact Or.inr ⟨by decide, _, cl_L_113, by decide⟩) rfl (by decide) cl_L_115 ct_IS (hp := 505) (i := 5) (len := 2) rfl (Or.inr ⟨rfl, dL_act_505⟩) (by decide) ?_
      refine G_bipush (pc := 507) (v := -73) dL_act_507 (by first | rfl | decide) ?_
      refine G_iret (pc := 509) VZ.x dL_act_509 rfl ⟨by decide, by decide⟩ ?_
      have e := hx i9 _ _ h1 h2 h3
      rw [xc_IS] at e
      exact e
theorem act_12 {Γ : GTy} {Z : HS} {P : HS → FT → Prop} {F' : FT} {x y z b : Int32} {es : List String} {QV' : Option Value → HS → Prop} (hH : SH Z) (hop : Tt Γ M_X9_tip [.ref 800000, .int x] Z (QVo P Z F' b) (QXo P Z F' es)) (hes : ∀ E, E ∈ es → E = xIO ∨ E = xIA ∨ E = xIS) (hv : ∀ Z' : HS, F' 25 0 = nI 0 → P Z' F' → QV' (some (.int b)) Z') (hx : ∀ (i : Nat) (E : String) (Z' : HS), es[i]? = some E → F' 25 0 = nI (i + 1) → P Z' F' → QV' (some (.int (xc E))) Z') : Tw Γ M_L_act [.ref 800000, .int (nI 12), .int x, .int y, .int z] Z QV' noX := by
  refine Tw_of' rfl rfl ?_
  show G Γ M_L_act (rm M_L_act) (Vt Γ M_L_act QV' noX) (0, 0) 0 [some (.ref 800000), some (.int (nI 12)), some (.int x), some (.int y), some (.int z), none] [] Z
  refine G_iload_n (pc := 0) dL_act_0 rfl ?_
  refine G_if_neN (pc := 1) (tgt := 12) (by omega) dL_act_1 (by decide) (fun _ => ?_) (fun h => absurd h (by decide))
  refine G_iload_n (pc := 12) dL_act_12 rfl ?_
  refine G_iconst (pc := 13) (v := nI 1) dL_act_13 (by first | rfl | decide) ?_
  refine G_icmp_neN (pc := 14) (tgt := 26) (by omega) (by omega) dL_act_14 (by decide) (fun _ => ?_) (fun h => absurd h (by decide))
  refine G_iload_n (pc := 26) dL_act_26 rfl ?_
  refine G_iconst (pc := 27) (v := nI 2) dL_act_27 (by first | rfl | decide) ?_
  refine G_icmp_neN (pc := 28) (tgt := 39) (by omega) (by omega) dL_act_28 (by decide) (fun _ => ?_) (fun h => absurd h (by decide))
  refine G_iload_n (pc := 39) dL_act_39 rfl ?_
  refine G_iconst (pc := 40) (v := nI 3) dL_act_40 (by first | rfl | decide) ?_
  refine G_icmp_neN (pc := 41) (tgt := 52) (by omega) (by omega) dL_act_41 (by decide) (fun _ => ?_) (fun h => absurd h (by decide))
  refine G_iload_n (pc := 52) dL_act_52 rfl ?_
  refine G_iconst (pc := 53) (v := nI 4) dL_act_53 (by first | rfl | decide) ?_
  refine G_icmp_neN (pc := 54) (tgt := 65) (by omega) (by omega) dL_act_54 (by decide) (fun _ => ?_) (fun h => absurd h (by decide))
  refine G_iload_n (pc := 65) dL_act_65 rfl ?_
  refine G_iconst (pc := 66) (v := nI 5) dL_act_66 (by first | rfl | decide) ?_
  refine G_icmp_neN (pc := 67) (tgt := 78) (by omega) (by omega) dL_act_67 (by decide) (fun _ => ?_) (fun h => absurd h (by decide))
  refine G_iload_n (pc := 78) dL_act_78 rfl ?_
  refine G_bipush (pc := 79) (v := nI 6) dL_act_79 (by first | rfl | decide) ?_
  refine G_icmp_neN (pc := 81) (tgt := 96) (by omega) (by omega) dL_act_81 (by decide) (fun _ => ?_) (fun h => absurd h (by decide))
  refine G_iload_n (pc := 96) dL_act_96 rfl ?_
  refine G_bipush (pc := 97) (v := nI 7) dL_act_97 (by first | rfl | decide) ?_
  refine G_icmp_neN (pc := 99) (tgt := 114) (by omega) (by omega) dL_act_99 (by decide) (fun _ => ?_) (fun h => absurd h (by decide))
  refine G_iload_n (pc := 114) dL_act_114 rfl ?_
  refine G_bipush (pc := 115) (v := nI 8) dL_act_115 (by first | rfl | decide) ?_
  refine G_icmp_neN (pc := 117) (tgt := 129) (by omega) (by omega) dL_act_117 (by decide) (fun _ => ?_) (fun h => absurd h (by decide))
  refine G_iload_n (pc := 129) dL_act_129 rfl ?_
  refine G_bipush (pc := 130) (v := nI 9) dL_act_130 (by first | rfl | decide) ?_
  refine G_icmp_neN (pc := 132) (tgt := 146) (by omega) (by omega) dL_act_132 (by decide) (fun _ => ?_) (fun h => absurd h (by decide))
  refine G_iload_n (pc := 146) dL_act_146 rfl ?_
  refine G_bipush (pc := 147) (v := nI 10) dL_act_147 (by first | rfl | decide) ?_
  refine G_icmp_neN (pc := 149) (tgt := 161) (by omega) (by omega) dL_act_149 (by decide) (fun _ => ?_) (fun h => absurd h (by decide))
  refine G_iload_n (pc := 161) dL_act_161 rfl ?_
  refine G_bipush (pc := 162) (v := nI 11) dL_act_162 (by first | rfl | decide) ?_
  refine G_icmp_neN (pc := 164) (tgt := 175) (by omega) (by omega) dL_act_164 (by decide) (fun _ => ?_) (fun h => absurd h (by decide))
  refine G_iload_n (pc := 175) dL_act_175 rfl ?_
  refine G_bipush (pc := 176) (v := nI 12) dL_act_176 (by first | rfl | decide) ?_
  refine G_icmp_neN (pc := 178) (tgt := 189) (by omega) (by omega) dL_act_178 (by decide) (fun h => absurd h (by decide)) (fun _ => ?_)
  refine G_aload_n (pc := 181) dL_act_181 rfl ?_
  refine G_iload_n (pc := 182) dL_act_182 rfl ?_
  refine K_V1 (pc := 183) (k' := (2, 12)) mok_X9_tip lk_L_46 (sh_k hH) rfl rfl rfl (aok0 rfl) dL_act_183 (hop) rfl (fun v1 Y1 q1 => ?_) (fun E1 Y1 q1 => ?_)
  · obtain ⟨e1, e2, e3⟩ := q1; subst e1
    show G _ _ _ _ _ _ _ (_ :: _) _
    refine G_goto (pc := 186) (tgt := 494) dL_act_186 (by decide) ?_
    refine G_iret (pc := 494) VZ.x dL_act_494 rfl ⟨by decide, by decide⟩ ?_
    exact hv _ e2 e3
  · obtain ⟨i9, h1, h2, h3⟩ := q1
    rcases hes E1 (List.mem_of_getElem? h1) with rfl | rfl | rfl
    · refine GX_catch [] _ _ rfl (fun z hz => absurd hz List.not_mem_nil) rfl (by decide) cl_L_111 ct_IO (hp := 495) (i := 5) (len := 2) rfl (Or.inr ⟨rfl, dL_act_495⟩) (by decide) ?_
      refine G_bipush (pc := 497) (v := -71) dL_act_497 (by first | rfl | decide) ?_
      refine G_iret (pc := 499) VZ.x dL_act_499 rfl ⟨by decide, by decide⟩ ?_
      have e := hx i9 _ _ h1 h2 h3
      rw [xc_IO] at e
      exact e
    · refine GX_catch [_] _ _ rfl (fun z hz => by rw [List.mem_singleton.mp hz]; exact Or.inr ⟨by decide, _, cl_L_111, by decide⟩) rfl (by decide) cl_L_113 ct_IA (hp := 500) (i := 5) (len := 2) rfl (Or.inr ⟨rfl, dL_act_500⟩) (by decide) ?_
      refine G_bipush (pc := 502) (v := -72) dL_act_502 (by first | rfl | decide) ?_
      refine G_iret (pc := 504) VZ.x dL_act_504 rfl ⟨by decide, by decide⟩ ?_
      have e := hx i9 _ _ h1 h2 h3
      rw [xc_IA] at e
      exact e
    · refine GX_catch [_, _] _ _ rfl (fun z hz => by rcases List.mem_cons.mp hz with rfl | hz; exact Or.inr ⟨by decide, _, cl_L_111, by decide⟩; rw [List.mem_singleton.mp hz]; exact Or.inr ⟨by decide, _, cl_L_113, by decide⟩) rfl (by decide) cl_L_115 ct_IS (hp := 505) (i := 5) (len := 2) rfl (Or.inr ⟨rfl, dL_act_505⟩) (by decide) ?_
      refine G_bipush (pc := 507) (v := -73) dL_act_507 (by first | rfl | decide) ?_
      refine G_iret (pc := 509) VZ.x dL_act_509 rfl ⟨by decide, by decide⟩ ?_
      have e := hx i9 _ _ h1 h2 h3
      rw [xc_IS] at e
      exact e
theorem act_13 {Γ : GTy} {Z : HS} {P : HS → FT → Prop} {F' : FT} {x y z b : Int32} {es : List String} {QV' : Option Value → HS → Prop} (hH : SH Z) (hop : Tt Γ M_X9_isOpen [.ref 800000, .int x] Z (QVo P Z F' b) (QXo P Z F' es)) (hes : ∀ E, E ∈ es → E = xIO ∨ E = xIA ∨ E = xIS) (hv : ∀ Z' : HS, F' 25 0 = nI 0 → P Z' F' → QV' (some (.int (if b = 0 then nI 0 else nI 1))) Z') (hx : ∀ (i : Nat) (E : String) (Z' : HS), es[i]? = some E → F' 25 0 = nI (i + 1) → P Z' F' → QV' (some (.int (xc E))) Z') : Tw Γ M_L_act [.ref 800000, .int (nI 13), .int x, .int y, .int z] Z QV' noX := by
  refine Tw_of' rfl rfl ?_
  show G Γ M_L_act (rm M_L_act) (Vt Γ M_L_act QV' noX) (0, 0) 0 [some (.ref 800000), some (.int (nI 13)), some (.int x), some (.int y), some (.int z), none] [] Z
  refine G_iload_n (pc := 0) dL_act_0 rfl ?_
  refine G_if_neN (pc := 1) (tgt := 12) (by omega) dL_act_1 (by decide) (fun _ => ?_) (fun h => absurd h (by decide))
  refine G_iload_n (pc := 12) dL_act_12 rfl ?_
  refine G_iconst (pc := 13) (v := nI 1) dL_act_13 (by first | rfl | decide) ?_
  refine G_icmp_neN (pc := 14) (tgt := 26) (by omega) (by omega) dL_act_14 (by decide) (fun _ => ?_) (fun h => absurd h (by decide))
  refine G_iload_n (pc := 26) dL_act_26 rfl ?_
  refine G_iconst (pc := 27) (v := nI 2) dL_act_27 (by first | rfl | decide) ?_
  refine G_icmp_neN (pc := 28) (tgt := 39) (by omega) (by omega) dL_act_28 (by decide) (fun _ => ?_) (fun h => absurd h (by decide))
  refine G_iload_n (pc := 39) dL_act_39 rfl ?_
  refine G_iconst (pc := 40) (v := nI 3) dL_act_40 (by first | rfl | decide) ?_
  refine G_icmp_neN (pc := 41) (tgt := 52) (by omega) (by omega) dL_act_41 (by decide) (fun _ => ?_) (fun h => absurd h (by decide))
  refine G_iload_n (pc := 52) dL_act_52 rfl ?_
  refine G_iconst (pc := 53) (v := nI 4) dL_act_53 (by first | rfl | decide) ?_
  refine G_icmp_neN (pc := 54) (tgt := 65) (by omega) (by omega) dL_act_54 (by decide) (fun _ => ?_) (fun h => absurd h (by decide))
  refine G_iload_n (pc := 65) dL_act_65 rfl ?_
  refine G_iconst (pc := 66) (v := nI 5) dL_act_66 (by first | rfl | decide) ?_
  refine G_icmp_neN (pc := 67) (tgt := 78) (by omega) (by omega) dL_act_67 (by decide) (fun _ => ?_) (fun h => absurd h (by decide))
  refine G_iload_n (pc := 78) dL_act_78 rfl ?_
  refine G_bipush (pc := 79) (v := nI 6) dL_act_79 (by first | rfl | decide) ?_
  refine G_icmp_neN (pc := 81) (tgt := 96) (by omega) (by omega) dL_act_81 (by decide) (fun _ => ?_) (fun h => absurd h (by decide))
  refine G_iload_n (pc := 96) dL_act_96 rfl ?_
  refine G_bipush (pc := 97) (v := nI 7) dL_act_97 (by first | rfl | decide) ?_
  refine G_icmp_neN (pc := 99) (tgt := 114) (by omega) (by omega) dL_act_99 (by decide) (fun _ => ?_) (fun h => absurd h (by decide))
  refine G_iload_n (pc := 114) dL_act_114 rfl ?_
  refine G_bipush (pc := 115) (v := nI 8) dL_act_115 (by first | rfl | decide) ?_
  refine G_icmp_neN (pc := 117) (tgt := 129) (by omega) (by omega) dL_act_117 (by decide) (fun _ => ?_) (fun h => absurd h (by decide))
  refine G_iload_n (pc := 129) dL_act_129 rfl ?_
  refine G_bipush (pc := 130) (v := nI 9) dL_act_130 (by first | rfl | decide) ?_
  refine G_icmp_neN (pc := 132) (tgt := 146) (by omega) (by omega) dL_act_132 (by decide) (fun _ => ?_) (fun h => absurd h (by decide))
  refine G_iload_n (pc := 146) dL_act_146 rfl ?_
  refine G_bipush (pc := 147) (v := nI 10) dL_act_147 (by first | rfl | decide) ?_
  refine G_icmp_neN (pc := 149) (tgt := 161) (by omega) (by omega) dL_act_149 (by decide) (fun _ => ?_) (fun h => absurd h (by decide))
  refine G_iload_n (pc := 161) dL_act_161 rfl ?_
  refine G_bipush (pc := 162) (v := nI 11) dL_act_162 (by first | rfl | decide) ?_
  refine G_icmp_neN (pc := 164) (tgt := 175) (by omega) (by omega) dL_act_164 (by decide) (fun _ => ?_) (fun h => absurd h (by decide))
  refine G_iload_n (pc := 175) dL_act_175 rfl ?_
  refine G_bipush (pc := 176) (v := nI 12) dL_act_176 (by first | rfl | decide) ?_
  refine G_icmp_neN (pc := 178) (tgt := 189) (by omega) (by omega) dL_act_178 (by decide) (fun _ => ?_) (fun h => absurd h (by decide))
  refine G_iload_n (pc := 189) dL_act_189 rfl ?_
  refine G_bipush (pc := 190) (v := nI 13) dL_act_190 (by first | rfl | decide) ?_
  refine G_icmp_neN (pc := 192) (tgt := 211) (by omega) (by omega) dL_act_192 (by decide) (fun h => absurd h (by decide)) (fun _ => ?_)
  refine G_aload_n (pc := 195) dL_act_195 rfl ?_
  refine G_iload_n (pc := 196) dL_act_196 rfl ?_
  refine K_V1 (pc := 197) (k' := (1, 6)) mok_X9_isOpen lk_L_49 (sh_k hH) rfl rfl rfl (aok0 rfl) dL_act_197 (hop) rfl (fun v1 Y1 q1 => ?_) (fun E1 Y1 q1 => ?_)
  · obtain ⟨e1, e2, e3⟩ := q1; subst e1
    show G _ _ _ _ _ _ _ (_ :: _) _
    refine G_if_eq (pc := 200) (tgt := 207) dL_act_200 (by decide) (fun c200 => ?_) (fun c200 => ?_)
    · skip
      have ey : (if b = 0 then nI 0 else nI 1) = nI 0 := if_pos c200
      refine G_iconst (pc := 207) (v := nI 0) dL_act_207 (by first | rfl | decide) ?_
      refine G_goto (pc := 208) (tgt := 494) dL_act_208 (by decide) ?_
      refine G_iret (pc := 494) VZ.x dL_act_494 rfl ⟨by decide, by decide⟩ ?_
      have e := hv _ e2 e3
      rw [ey] at e
      exact e
    · skip
      have ey : (if b = 0 then nI 0 else nI 1) = nI 1 := if_neg c200
      refine G_iconst (pc := 203) (v := nI 1) dL_act_203 (by first | rfl | decide) ?_
      refine G_goto (pc := 204) (tgt := 494) dL_act_204 (by decide) ?_
      refine G_iret (pc := 494) VZ.x dL_act_494 rfl ⟨by decide, by decide⟩ ?_
      have e := hv _ e2 e3
      rw [ey] at e
      exact e
  · obtain ⟨i9, h1, h2, h3⟩ := q1
    rcases hes E1 (List.mem_of_getElem? h1) with rfl | rfl | rfl
    · refine GX_catch [] _ _ rfl (fun z hz => absurd hz List.not_mem_nil) rfl (by decide) cl_L_111 ct_IO (hp := 495) (i := 5) (len := 2) rfl (Or.inr ⟨rfl, dL_act_495⟩) (by decide) ?_
      refine G_bipush (pc := 497) (v := -71) dL_act_497 (by first | rfl | decide) ?_
      refine G_iret (pc := 499) VZ.x dL_act_499 rfl ⟨by decide, by decide⟩ ?_
      have e := hx i9 _ _ h1 h2 h3
      rw [xc_IO] at e
      exact e
    · refine GX_catch [_] _ _ rfl (fun z hz => by rw [List.mem_singleton.mp hz]; exact Or.inr ⟨by decide, _, cl_L_111, by decide⟩) rfl (by decide) cl_L_113 ct_IA (hp := 500) (i := 5) (len := 2) rfl (Or.inr ⟨rfl, dL_act_500⟩) (by decide) ?_
      refine G_bipush (pc := 502) (v := -72) dL_act_502 (by first | rfl | decide) ?_
      refine G_iret (pc := 504) VZ.x dL_act_504 rfl ⟨by decide, by decide⟩ ?_
      have e := hx i9 _ _ h1 h2 h3
      rw [xc_IA] at e
      exact e
    · refine GX_catch [_, _] _ _ rfl (fun z hz => by rcases List.mem_cons.mp hz with rfl | hz; exact Or.inr ⟨by decide, _, cl_L_111, by decide⟩; rw [List.mem_singleton.mp hz]; exact Or.inr ⟨by decide, _, cl_L_113, by decide⟩) rfl (by decide) cl_L_115 ct_IS (hp := 505) (i := 5) (len := 2) rfl (Or.inr ⟨rfl, dL_act_505⟩) (by decide) ?_
      refine G_bipush (pc := 507) (v := -73) dL_act_507 (by first | rfl | decide) ?_
      refine G_iret (pc := 509) VZ.x dL_act_509 rfl ⟨by decide, by decide⟩ ?_
      have e := hx i9 _ _ h1 h2 h3
      rw [xc_IS] at e
      exact e
theorem act_14 {Γ : GTy} {Z : HS} {P : HS → FT → Prop} {F' : FT} {x y z b : Int32} {es : List String} {QV' : Option Value → HS → Prop} (hH : SH Z) (hop : Tt Γ M_X9_renter [.ref 800000, .int x] Z (QVo P Z F' b) (QXo P Z F' es)) (hes : ∀ E, E ∈ es → E = xIO ∨ E = xIA ∨ E = xIS) (hv : ∀ Z' : HS, F' 25 0 = nI 0 → P Z' F' → QV' (some (.int b)) Z') (hx : ∀ (i : Nat) (E : String) (Z' : HS), es[i]? = some E → F' 25 0 = nI (i + 1) → P Z' F' → QV' (some (.int (xc E))) Z') : Tw Γ M_L_act [.ref 800000, .int (nI 14), .int x, .int y, .int z] Z QV' noX := by
  refine Tw_of' rfl rfl ?_
  show G Γ M_L_act (rm M_L_act) (Vt Γ M_L_act QV' noX) (0, 0) 0 [some (.ref 800000), some (.int (nI 14)), some (.int x), some (.int y), some (.int z), none] [] Z
  refine G_iload_n (pc := 0) dL_act_0 rfl ?_
  refine G_if_neN (pc := 1) (tgt := 12) (by omega) dL_act_1 (by decide) (fun _ => ?_) (fun h => absurd h (by decide))
  refine G_iload_n (pc := 12) dL_act_12 rfl ?_
  refine G_iconst (pc := 13) (v := nI 1) dL_act_13 (by first | rfl | decide) ?_
  refine G_icmp_neN (pc := 14) (tgt := 26) (by omega) (by omega) dL_act_14 (by decide) (fun _ => ?_) (fun h => absurd h (by decide))
  refine G_iload_n (pc := 26) dL_act_26 rfl ?_
  refine G_iconst (pc := 27) (v := nI 2) dL_act_27 (by first | rfl | decide) ?_
  refine G_icmp_neN (pc := 28) (tgt := 39) (by omega) (by omega) dL_act_28 (by decide) (fun _ => ?_) (fun h => absurd h (by decide))
  refine G_iload_n (pc := 39) dL_act_39 rfl ?_
  refine G_iconst (pc := 40) (v := nI 3) dL_act_40 (by first | rfl | decide) ?_
  refine G_icmp_neN (pc := 41) (tgt := 52) (by omega) (by omega) dL_act_41 (by decide) (fun _ => ?_) (fun h => absurd h (by decide))
  refine G_iload_n (pc := 52) dL_act_52 rfl ?_
  refine G_iconst (pc := 53) (v := nI 4) dL_act_53 (by first | rfl | decide) ?_
  refine G_icmp_neN (pc := 54) (tgt := 65) (by omega) (by omega) dL_act_54 (by decide) (fun _ => ?_) (fun h => absurd h (by decide))
  refine G_iload_n (pc := 65) dL_act_65 rfl ?_
  refine G_iconst (pc := 66) (v := nI 5) dL_act_66 (by first | rfl | decide) ?_
  refine G_icmp_neN (pc := 67) (tgt := 78) (by omega) (by omega) dL_act_67 (by decide) (fun _ => ?_) (fun h => absurd h (by decide))
  refine G_iload_n (pc := 78) dL_act_78 rfl ?_
  refine G_bipush (pc := 79) (v := nI 6) dL_act_79 (by first | rfl | decide) ?_
  refine G_icmp_neN (pc := 81) (tgt := 96) (by omega) (by omega) dL_act_81 (by decide) (fun _ => ?_) (fun h => absurd h (by decide))
  refine G_iload_n (pc := 96) dL_act_96 rfl ?_
  refine G_bipush (pc := 97) (v := nI 7) dL_act_97 (by first | rfl | decide) ?_
  refine G_icmp_neN (pc := 99) (tgt := 114) (by omega) (by omega) dL_act_99 (by decide) (fun _ => ?_) (fun h => absurd h (by decide))
  refine G_iload_n (pc := 114) dL_act_114 rfl ?_
  refine G_bipush (pc := 115) (v := nI 8) dL_act_115 (by first | rfl | decide) ?_
  refine G_icmp_neN (pc := 117) (tgt := 129) (by omega) (by omega) dL_act_117 (by decide) (fun _ => ?_) (fun h => absurd h (by decide))
  refine G_iload_n (pc := 129) dL_act_129 rfl ?_
  refine G_bipush (pc := 130) (v := nI 9) dL_act_130 (by first | rfl | decide) ?_
  refine G_icmp_neN (pc := 132) (tgt := 146) (by omega) (by omega) dL_act_132 (by decide) (fun _ => ?_) (fun h => absurd h (by decide))
  refine G_iload_n (pc := 146) dL_act_146 rfl ?_
  refine G_bipush (pc := 147) (v := nI 10) dL_act_147 (by first | rfl | decide) ?_
  refine G_icmp_neN (pc := 149) (tgt := 161) (by omega) (by omega) dL_act_149 (by decide) (fun _ => ?_) (fun h => absurd h (by decide))
  refine G_iload_n (pc := 161) dL_act_161 rfl ?_
  refine G_bipush (pc := 162) (v := nI 11) dL_act_162 (by first | rfl | decide) ?_
  refine G_icmp_neN (pc := 164) (tgt := 175) (by omega) (by omega) dL_act_164 (by decide) (fun _ => ?_) (fun h => absurd h (by decide))
  refine G_iload_n (pc := 175) dL_act_175 rfl ?_
  refine G_bipush (pc := 176) (v := nI 12) dL_act_176 (by first | rfl | decide) ?_
  refine G_icmp_neN (pc := 178) (tgt := 189) (by omega) (by omega) dL_act_178 (by decide) (fun _ => ?_) (fun h => absurd h (by decide))
  refine G_iload_n (pc := 189) dL_act_189 rfl ?_
  refine G_bipush (pc := 190) (v := nI 13) dL_act_190 (by first | rfl | decide) ?_
  refine G_icmp_neN (pc := 192) (tgt := 211) (by omega) (by omega) dL_act_192 (by decide) (fun _ => ?_) (fun h => absurd h (by decide))
  refine G_iload_n (pc := 211) dL_act_211 rfl ?_
  refine G_bipush (pc := 212) (v := nI 14) dL_act_212 (by first | rfl | decide) ?_
  refine G_icmp_neN (pc := 214) (tgt := 225) (by omega) (by omega) dL_act_214 (by decide) (fun h => absurd h (by decide)) (fun _ => ?_)
  refine G_aload_n (pc := 217) dL_act_217 rfl ?_
  refine G_iload_n (pc := 218) dL_act_218 rfl ?_
  refine K_V1 (pc := 219) (k' := (1, 6)) mok_X9_renter lk_L_53 (sh_k hH) rfl rfl rfl (aok0 rfl) dL_act_219 (hop) rfl (fun v1 Y1 q1 => ?_) (fun E1 Y1 q1 => ?_)
  · obtain ⟨e1, e2, e3⟩ := q1; subst e1
    show G _ _ _ _ _ _ _ (_ :: _) _
    refine G_goto (pc := 222) (tgt := 494) dL_act_222 (by decide) ?_
    refine G_iret (pc := 494) VZ.x dL_act_494 rfl ⟨by decide, by decide⟩ ?_
    exact hv _ e2 e3
  · obtain ⟨i9, h1, h2, h3⟩ := q1
    rcases hes E1 (List.mem_of_getElem? h1) with rfl | rfl | rfl
    · refine GX_catch [] _ _ rfl (fun z hz => absurd hz List.not_mem_nil) rfl (by decide) cl_L_111 ct_IO (hp := 495) (i := 5) (len := 2) rfl (Or.inr ⟨rfl, dL_act_495⟩) (by decide) ?_
      refine G_bipush (pc := 497) (v := -71) dL_act_497 (by first | rfl | decide) ?_
      refine G_iret (pc := 499) VZ.x dL_act_499 rfl ⟨by decide, by decide⟩ ?_
      have e := hx i9 _ _ h1 h2 h3
      rw [xc_IO] at e
      exact e
    · refine GX_catch [_] _ _ rfl (fun z hz => by rw [List.mem_singleton.mp hz]; exact Or.inr ⟨by decide, _, cl_L_111, by decide⟩) rfl (by decide) cl_L_113 ct_IA (hp := 500) (i := 5) (len := 2) rfl (Or.inr ⟨rfl, dL_act_500⟩) (by decide) ?_
      refine G_bipush (pc := 502) (v := -72) dL_act_502 (by first | rfl | decide) ?_
      refine G_iret (pc := 504) VZ.x dL_act_504 rfl ⟨by decide, by decide⟩ ?_
      have e := hx i9 _ _ h1 h2 h3
      rw [xc_IA] at e
      exact e
    · refine GX_catch [_, _] _ _ rfl (fun z hz => by rcases List.mem_cons.mp hz with rfl | hz; exact Or.inr ⟨by decide, _, cl_L_111, by decide⟩; rw [List.mem_singleton.mp hz]; exact Or.inr ⟨by decide, _, cl_L_113, by decide⟩) rfl (by decide) cl_L_115 ct_IS (hp := 505) (i := 5) (len := 2) rfl (Or.inr ⟨rfl, dL_act_505⟩) (by decide) ?_
      refine G_bipush (pc := 507) (v := -73) dL_act_507 (by first | rfl | decide) ?_
      refine G_iret (pc := 509) VZ.x dL_act_509 rfl ⟨by decide, by decide⟩ ?_
      have e := hx i9 _ _ h1 h2 h3
      rw [xc_IS] at e
      exact e
theorem act_15 {Γ : GTy} {Z : HS} {P : HS → FT → Prop} {F' : FT} {x y z b : Int32} {es : List String} {QV' : Option Value → HS → Prop} (hH : SH Z) (hop : Tt Γ M_X9_clock [.ref 800000, .int x] Z (QVo P Z F' b) (QXo P Z F' es)) (hes : ∀ E, E ∈ es → E = xIO ∨ E = xIA ∨ E = xIS) (hv : ∀ Z' : HS, F' 25 0 = nI 0 → P Z' F' → QV' (some (.int b)) Z') (hx : ∀ (i : Nat) (E : String) (Z' : HS), es[i]? = some E → F' 25 0 = nI (i + 1) → P Z' F' → QV' (some (.int (xc E))) Z') : Tw Γ M_L_act [.ref 800000, .int (nI 15), .int x, .int y, .int z] Z QV' noX := by
  refine Tw_of' rfl rfl ?_
  show G Γ M_L_act (rm M_L_act) (Vt Γ M_L_act QV' noX) (0, 0) 0 [some (.ref 800000), some (.int (nI 15)), some (.int x), some (.int y), some (.int z), none] [] Z
  refine G_iload_n (pc := 0) dL_act_0 rfl ?_
  refine G_if_neN (pc := 1) (tgt := 12) (by omega) dL_act_1 (by decide) (fun _ => ?_) (fun h => absurd h (by decide))
  refine G_iload_n (pc := 12) dL_act_12 rfl ?_
  refine G_iconst (pc := 13) (v := nI 1) dL_act_13 (by first | rfl | decide) ?_
  refine G_icmp_neN (pc := 14) (tgt := 26) (by omega) (by omega) dL_act_14 (by decide) (fun _ => ?_) (fun h => absurd h (by decide))
  refine G_iload_n (pc := 26) dL_act_26 rfl ?_
  refine G_iconst (pc := 27) (v := nI 2) dL_act_27 (by first | rfl | decide) ?_
  refine G_icmp_neN (pc := 28) (tgt := 39) (by omega) (by omega) dL_act_28 (by decide) (fun _ => ?_) (fun h => absurd h (by decide))
  refine G_iload_n (pc := 39) dL_act_39 rfl ?_
  refine G_iconst (pc := 40) (v := nI 3) dL_act_40 (by first | rfl | decide) ?_
  refine G_icmp_neN (pc := 41) (tgt := 52) (by omega) (by omega) dL_act_41 (by decide) (fun _ => ?_) (fun h => absurd h (by decide))
  refine G_iload_n (pc := 52) dL_act_52 rfl ?_
  refine G_iconst (pc := 53) (v := nI 4) dL_act_53 (by first | rfl | decide) ?_
  refine G_icmp_neN (pc := 54) (tgt := 65) (by omega) (by omega) dL_act_54 (by decide) (fun _ => ?_) (fun h => absurd h (by decide))
  refine G_iload_n (pc := 65) dL_act_65 rfl ?_
  refine G_iconst (pc := 66) (v := nI 5) dL_act_66 (by first | rfl | decide) ?_
  refine G_icmp_neN (pc := 67) (tgt := 78) (by omega) (by omega) dL_act_67 (by decide) (fun _ => ?_) (fun h => absurd h (by decide))
  refine G_iload_n (pc := 78) dL_act_78 rfl ?_
  refine G_bipush (pc := 79) (v := nI 6) dL_act_79 (by first | rfl | decide) ?_
  refine G_icmp_neN (pc := 81) (tgt := 96) (by omega) (by omega) dL_act_81 (by decide) (fun _ => ?_) (fun h => absurd h (by decide))
  refine G_iload_n (pc := 96) dL_act_96 rfl ?_
  refine G_bipush (pc := 97) (v := nI 7) dL_act_97 (by first | rfl | decide) ?_
  refine G_icmp_neN (pc := 99) (tgt := 114) (by omega) (by omega) dL_act_99 (by decide) (fun _ => ?_) (fun h => absurd h (by decide))
  refine G_iload_n (pc := 114) dL_act_114 rfl ?_
  refine G_bipush (pc := 115) (v := nI 8) dL_act_115 (by first | rfl | decide) ?_
  refine G_icmp_neN (pc := 117) (tgt := 129) (by omega) (by omega) dL_act_117 (by decide) (fun _ => ?_) (fun h => absurd h (by decide))
  refine G_iload_n (pc := 129) dL_act_129 rfl ?_
  refine G_bipush (pc := 130) (v := nI 9) dL_act_130 (by first | rfl | decide) ?_
  refine G_icmp_neN (pc := 132) (tgt := 146) (by omega) (by omega) dL_act_132 (by decide) (fun _ => ?_) (fun h => absurd h (by decide))
  refine G_iload_n (pc := 146) dL_act_146 rfl ?_
  refine G_bipush (pc := 147) (v := nI 10) dL_act_147 (by first | rfl | decide) ?_
  refine G_icmp_neN (pc := 149) (tgt := 161) (by omega) (by omega) dL_act_149 (by decide) (fun _ => ?_) (fun h => absurd h (by decide))
  refine G_iload_n (pc := 161) dL_act_161 rfl ?_
  refine G_bipush (pc := 162) (v := nI 11) dL_act_162 (by first | rfl | decide) ?_
  refine G_icmp_neN (pc := 164) (tgt := 175) (by omega) (by omega) dL_act_164 (by decide) (fun _ => ?_) (fun h => absurd h (by decide))
  refine G_iload_n (pc := 175) dL_act_175 rfl ?_
  refine G_bipush (pc := 176) (v := nI 12) dL_act_176 (by first | rfl | decide) ?_
  refine G_icmp_neN (pc := 178) (tgt := 189) (by omega) (by omega) dL_act_178 (by decide) (fun _ => ?_) (fun h => absurd h (by decide))
  refine G_iload_n (pc := 189) dL_act_189 rfl ?_
  refine G_bipush (pc := 190) (v := nI 13) dL_act_190 (by first | rfl | decide) ?_
  refine G_icmp_neN (pc := 192) (tgt := 211) (by omega) (by omega) dL_act_192 (by decide) (fun _ => ?_) (fun h => absurd h (by decide))
  refine G_iload_n (pc := 211) dL_act_211 rfl ?_
  refine G_bipush (pc := 212) (v := nI 14) dL_act_212 (by first | rfl | decide) ?_
  refine G_icmp_neN (pc := 214) (tgt := 225) (by omega) (by omega) dL_act_214 (by decide) (fun _ => ?_) (fun h => absurd h (by decide))
  refine G_iload_n (pc := 225) dL_act_225 rfl ?_
  refine G_bipush (pc := 226) (v := nI 15) dL_act_226 (by first | rfl | decide) ?_
  refine G_icmp_neN (pc := 228) (tgt := 239) (by omega) (by omega) dL_act_228 (by decide) (fun h => absurd h (by decide)) (fun _ => ?_)
  refine G_aload_n (pc := 231) dL_act_231 rfl ?_
  refine G_iload_n (pc := 232) dL_act_232 rfl ?_
  refine K_V1 (pc := 233) (k' := (1, 6)) mok_X9_clock lk_L_56 (sh_k hH) rfl rfl rfl (aok0 rfl) dL_act_233 (hop) rfl (fun v1 Y1 q1 => ?_) (fun E1 Y1 q1 => ?_)
  · obtain ⟨e1, e2, e3⟩ := q1; subst e1
    show G _ _ _ _ _ _ _ (_ :: _) _
    refine G_goto (pc := 236) (tgt := 494) dL_act_236 (by decide) ?_
    refine G_iret (pc := 494) VZ.x dL_act_494 rfl ⟨by decide, by decide⟩ ?_
    exact hv _ e2 e3
  · obtain ⟨i9, h1, h2, h3⟩ := q1
    rcases hes E1 (List.mem_of_getElem? h1) with rfl | rfl | rfl
    · refine GX_catch [] _ _ rfl (fun z hz => absurd hz List.not_mem_nil) rfl (by decide) cl_L_111 ct_IO (hp := 495) (i := 5) (len := 2) rfl (Or.inr ⟨rfl, dL_act_495⟩) (by decide) ?_
      refine G_bipush (pc := 497) (v := -71) dL_act_497 (by first | rfl | decide) ?_
      refine G_iret (pc := 499) VZ.x dL_act_499 rfl ⟨by decide, by decide⟩ ?_
      have e := hx i9 _ _ h1 h2 h3
      rw [xc_IO] at e
      exact e
    · refine GX_catch [_] _ _ rfl (fun z hz => by rw [List.mem_singleton.mp hz]; exact Or.inr ⟨by decide, _, cl_L_111, by decide⟩) rfl (by decide) cl_L_113 ct_IA (hp := 500) (i := 5) (len := 2) rfl (Or.inr ⟨rfl, dL_act_500⟩) (by decide) ?_
      refine G_bipush (pc := 502) (v := -72) dL_act_502 (by first | rfl | decide) ?_
      refine G_iret (pc := 504) VZ.x dL_act_504 rfl ⟨by decide, by decide⟩ ?_
      have e := hx i9 _ _ h1 h2 h3
      rw [xc_IA] at e
      exact e
    · refine GX_catch [_, _] _ _ rfl (fun z hz => by rcases List.mem_cons.mp hz with rfl | hz; exact Or.inr ⟨by decide, _, cl_L_111, by decide⟩; rw [List.mem_singleton.mp hz]; exact Or.inr ⟨by decide, _, cl_L_113, by decide⟩) rfl (by decide) cl_L_115 ct_IS (hp := 505) (i := 5) (len := 2) rfl (Or.inr ⟨rfl, dL_act_505⟩) (by decide) ?_
      refine G_bipush (pc := 507) (v := -73) dL_act_507 (by first | rfl | decide) ?_
      refine G_iret (pc := 509) VZ.x dL_act_509 rfl ⟨by decide, by decide⟩ ?_
      have e := hx i9 _ _ h1 h2 h3
      rw [xc_IS] at e
      exact e
theorem act_16 {Γ : GTy} {Z : HS} {P : HS → FT → Prop} {F' : FT} {x y z b : Int32} {es : List String} {QV' : Option Value → HS → Prop} (hH : SH Z) (hop : Tt Γ M_X9_frameOn [.ref 800000, .int x] Z (QVo P Z F' b) (QXo P Z F' es)) (hes : ∀ E, E ∈ es → E = xIO ∨ E = xIA ∨ E = xIS) (hv : ∀ Z' : HS, F' 25 0 = nI 0 → P Z' F' → QV' (some (.int b)) Z') (hx : ∀ (i : Nat) (E : String) (Z' : HS), es[i]? = some E → F' 25 0 = nI (i + 1) → P Z' F' → QV' (some (.int (xc E))) Z') : Tw Γ M_L_act [.ref 800000, .int (nI 16), .int x, .int y, .int z] Z QV' noX := by
  refine Tw_of' rfl rfl ?_
  show G Γ M_L_act (rm M_L_act) (Vt Γ M_L_act QV' noX) (0, 0) 0 [some (.ref 800000), some (.int (nI 16)), some (.int x), some (.int y), some (.int z), none] [] Z
  refine G_iload_n (pc := 0) dL_act_0 rfl ?_
  refine G_if_neN (pc := 1) (tgt := 12) (by omega) dL_act_1 (by decide) (fun _ => ?_) (fun h => absurd h (by decide))
  refine G_iload_n (pc := 12) dL_act_12 rfl ?_
  refine G_iconst (pc := 13) (v := nI 1) dL_act_13 (by first | rfl | decide) ?_
  refine G_icmp_neN (pc := 14) (tgt := 26) (by omega) (by omega) dL_act_14 (by decide) (fun _ => ?_) (fun h => absurd h (by decide))
  refine G_iload_n (pc := 26) dL_act_26 rfl ?_
  refine G_iconst (pc := 27) (v := nI 2) dL_act_27 (by first | rfl | decide) ?_
  refine G_icmp_neN (pc := 28) (tgt := 39) (by omega) (by omega) dL_act_28 (by decide) (fun _ => ?_) (fun h => absurd h (by decide))
  refine G_iload_n (pc := 39) dL_act_39 rfl ?_
  refine G_iconst (pc := 40) (v := nI 3) dL_act_40 (by first | rfl | decide) ?_
  refine G_icmp_neN (pc := 41) (tgt := 52) (by omega) (by omega) dL_act_41 (by decide) (fun _ => ?_) (fun h => absurd h (by decide))
  refine G_iload_n (pc := 52) dL_act_52 rfl ?_
  refine G_iconst (pc := 53) (v := nI 4) dL_act_53 (by first | rfl | decide) ?_
  refine G_icmp_neN (pc := 54) (tgt := 65) (by omega) (by omega) dL_act_54 (by decide) (fun _ => ?_) (fun h => absurd h (by decide))
  refine G_iload_n (pc := 65) dL_act_65 rfl ?_
  refine G_iconst (pc := 66) (v := nI 5) dL_act_66 (by first | rfl | decide) ?_
  refine G_icmp_neN (pc := 67) (tgt := 78) (by omega) (by omega) dL_act_67 (by decide) (fun _ => ?_) (fun h => absurd h (by decide))
  refine G_iload_n (pc := 78) dL_act_78 rfl ?_
  refine G_bipush (pc := 79) (v := nI 6) dL_act_79 (by first | rfl | decide) ?_
  refine G_icmp_neN (pc := 81) (tgt := 96) (by omega) (by omega) dL_act_81 (by decide) (fun _ => ?_) (fun h => absurd h (by decide))
  refine G_iload_n (pc := 96) dL_act_96 rfl ?_
  refine G_bipush (pc := 97) (v := nI 7) dL_act_97 (by first | rfl | decide) ?_
  refine G_icmp_neN (pc := 99) (tgt := 114) (by omega) (by omega) dL_act_99 (by decide) (fun _ => ?_) (fun h => absurd h (by decide))
  refine G_iload_n (pc := 114) dL_act_114 rfl ?_
  refine G_bipush (pc := 115) (v := nI 8) dL_act_115 (by first | rfl | decide) ?_
  refine G_icmp_neN (pc := 117) (tgt := 129) (by omega) (by omega) dL_act_117 (by decide) (fun _ => ?_) (fun h => absurd h (by decide))
  refine G_iload_n (pc := 129) dL_act_129 rfl ?_
  refine G_bipush (pc := 130) (v := nI 9) dL_act_130 (by first | rfl | decide) ?_
  refine G_icmp_neN (pc := 132) (tgt := 146) (by omega) (by omega) dL_act_132 (by decide) (fun _ => ?_) (fun h => absurd h (by decide))
  refine G_iload_n (pc := 146) dL_act_146 rfl ?_
  refine G_bipush (pc := 147) (v := nI 10) dL_act_147 (by first | rfl | decide) ?_
  refine G_icmp_neN (pc := 149) (tgt := 161) (by omega) (by omega) dL_act_149 (by decide) (fun _ => ?_) (fun h => absurd h (by decide))
  refine G_iload_n (pc := 161) dL_act_161 rfl ?_
  refine G_bipush (pc := 162) (v := nI 11) dL_act_162 (by first | rfl | decide) ?_
  refine G_icmp_neN (pc := 164) (tgt := 175) (by omega) (by omega) dL_act_164 (by decide) (fun _ => ?_) (fun h => absurd h (by decide))
  refine G_iload_n (pc := 175) dL_act_175 rfl ?_
  refine G_bipush (pc := 176) (v := nI 12) dL_act_176 (by first | rfl | decide) ?_
  refine G_icmp_neN (pc := 178) (tgt := 189) (by omega) (by omega) dL_act_178 (by decide) (fun _ => ?_) (fun h => absurd h (by decide))
  refine G_iload_n (pc := 189) dL_act_189 rfl ?_
  refine G_bipush (pc := 190) (v := nI 13) dL_act_190 (by first | rfl | decide) ?_
  refine G_icmp_neN (pc := 192) (tgt := 211) (by omega) (by omega) dL_act_192 (by decide) (fun _ => ?_) (fun h => absurd h (by decide))
  refine G_iload_n (pc := 211) dL_act_211 rfl ?_
  refine G_bipush (pc := 212) (v := nI 14) dL_act_212 (by first | rfl | decide) ?_
  refine G_icmp_neN (pc := 214) (tgt := 225) (by omega) (by omega) dL_act_214 (by decide) (fun _ => ?_) (fun h => absurd h (by decide))
  refine G_iload_n (pc := 225) dL_act_225 rfl ?_
  refine G_bipush (pc := 226) (v := nI 15) dL_act_226 (by first | rfl | decide) ?_
  refine G_icmp_neN (pc := 228) (tgt := 239) (by omega) (by omega) dL_act_228 (by decide) (fun _ => ?_) (fun h => absurd h (by decide))
  refine G_iload_n (pc := 239) dL_act_239 rfl ?_
  refine G_bipush (pc := 240) (v := nI 16) dL_act_240 (by first | rfl | decide) ?_
  refine G_icmp_neN (pc := 242) (tgt := 253) (by omega) (by omega) dL_act_242 (by decide) (fun h => absurd h (by decide)) (fun _ => ?_)
  refine G_aload_n (pc := 245) dL_act_245 rfl ?_
  refine G_iload_n (pc := 246) dL_act_246 rfl ?_
  refine K_V1 (pc := 247) (k' := (1, 6)) mok_X9_frameOn lk_L_59 (sh_k hH) rfl rfl rfl (aok0 rfl) dL_act_247 (hop) rfl (fun v1 Y1 q1 => ?_) (fun E1 Y1 q1 => ?_)
  · obtain ⟨e1, e2, e3⟩ := q1; subst e1
    show G _ _ _ _ _ _ _ (_ :: _) _
    refine G_goto (pc := 250) (tgt := 494) dL_act_250 (by decide) ?_
    refine G_iret (pc := 494) VZ.x dL_act_494 rfl ⟨by decide, by decide⟩ ?_
    exact hv _ e2 e3
  · obtain ⟨i9, h1, h2, h3⟩ := q1
    rcases hes E1 (List.mem_of_getElem? h1) with rfl | rfl | rfl
    · refine GX_catch [] _ _ rfl (fun z hz => absurd hz List.not_mem_nil) rfl (by decide) cl_L_111 ct_IO (hp := 495) (i := 5) (len := 2) rfl (Or.inr ⟨rfl, dL_act_495⟩) (by decide) ?_
      refine G_bipush (pc := 497) (v := -71) dL_act_497 (by first | rfl | decide) ?_
      refine G_iret (pc := 499) VZ.x dL_act_499 rfl ⟨by decide, by decide⟩ ?_
      have e := hx i9 _ _ h1 h2 h3
      rw [xc_IO] at e
      exact e
    · refine GX_catch [_] _ _ rfl (fun z hz => by rw [List.mem_singleton.mp hz]; exact Or.inr ⟨by decide, _, cl_L_111, by decide⟩) rfl (by decide) cl_L_113 ct_IA (hp := 500) (i := 5) (len := 2) rfl (Or.inr ⟨rfl, dL_act_500⟩) (by decide) ?_
      refine G_bipush (pc := 502) (v := -72) dL_act_502 (by first | rfl | decide) ?_
      refine G_iret (pc := 504) VZ.x dL_act_504 rfl ⟨by decide, by decide⟩ ?_
      have e := hx i9 _ _ h1 h2 h3
      rw [xc_IA] at e
      exact e
    · refine GX_catch [_, _] _ _ rfl (fun z hz => by rcases List.mem_cons.mp hz with rfl | hz; exact Or.inr ⟨by decide, _, cl_L_111, by decide⟩; rw [List.mem_singleton.mp hz]; exact Or.inr ⟨by decide, _, cl_L_113, by decide⟩) rfl (by decide) cl_L_115 ct_IS (hp := 505) (i := 5) (len := 2) rfl (Or.inr ⟨rfl, dL_act_505⟩) (by decide) ?_
      refine G_bipush (pc := 507) (v := -73) dL_act_507 (by first | rfl | decide) ?_
      refine G_iret (pc := 509) VZ.x dL_act_509 rfl ⟨by decide, by decide⟩ ?_
      have e := hx i9 _ _ h1 h2 h3
      rw [xc_IS] at e
      exact e
theorem act_17 {Γ : GTy} {Z : HS} {P : HS → FT → Prop} {F' : FT} {x y z b : Int32} {es : List String} {QV' : Option Value → HS → Prop} (hH : SH Z) (hop : Tt Γ M_X9_owes [.ref 800000, .int x] Z (QVo P Z F' b) (QXo P Z F' es)) (hes : ∀ E, E ∈ es → E = xIO ∨ E = xIA ∨ E = xIS) (hv : ∀ Z' : HS, F' 25 0 = nI 0 → P Z' F' → QV' (some (.int b)) Z') (hx : ∀ (i : Nat) (E : String) (Z' : HS), es[i]? = some E → F' 25 0 = nI (i + 1) → P Z' F' → QV' (some (.int (xc E))) Z') : Tw Γ M_L_act [.ref 800000, .int (nI 17), .int x, .int y, .int z] Z QV' noX := by
  refine Tw_of' rfl rfl ?_
  show G Γ M_L_act (rm M_L_act) (Vt Γ M_L_act QV' noX) (0, 0) 0 [some (.ref 800000), some (.int (nI 17)), some (.int x), some (.int y), some (.int z), none] [] Z
  refine G_iload_n (pc := 0) dL_act_0 rfl ?_
  refine G_if_neN (pc := 1) (tgt := 12) (by omega) dL_act_1 (by decide) (fun _ => ?_) (fun h => absurd h (by decide))
  refine G_iload_n (pc := 12) dL_act_12 rfl ?_
  refine G_iconst (pc := 13) (v := nI 1) dL_act_13 (by first | rfl | decide) ?_
  refine G_icmp_neN (pc := 14) (tgt := 26) (by omega) (by omega) dL_act_14 (by decide) (fun _ => ?_) (fun h => absurd h (by decide))
  refine G_iload_n (pc := 26) dL_act_26 rfl ?_
  refine G_iconst (pc := 27) (v := nI 2) dL_act_27 (by first | rfl | decide) ?_
  refine G_icmp_neN (pc := 28) (tgt := 39) (by omega) (by omega) dL_act_28 (by decide) (fun _ => ?_) (fun h => absurd h (by decide))
  refine G_iload_n (pc := 39) dL_act_39 rfl ?_
  refine G_iconst (pc := 40) (v := nI 3) dL_act_40 (by first | rfl | decide) ?_
  refine G_icmp_neN (pc := 41) (tgt := 52) (by omega) (by omega) dL_act_41 (by decide) (fun _ => ?_) (fun h => absurd h (by decide))
  refine G_iload_n (pc := 52) dL_act_52 rfl ?_
  refine G_iconst (pc := 53) (v := nI 4) dL_act_53 (by first | rfl | decide) ?_
  refine G_icmp_neN (pc := 54) (tgt := 65) (by omega) (by omega) dL_act_54 (by decide) (fun _ => ?_) (fun h => absurd h (by decide))
  refine G_iload_n (pc := 65) dL_act_65 rfl ?_
  refine G_iconst (pc := 66) (v := nI 5) dL_act_66 (by first | rfl | decide) ?_
  refine G_icmp_neN (pc := 67) (tgt := 78) (by omega) (by omega) dL_act_67 (by decide) (fun _ => ?_) (fun h => absurd h (by decide))
  refine G_iload_n (pc := 78) dL_act_78 rfl ?_
  refine G_bipush (pc := 79) (v := nI 6) dL_act_79 (by first | rfl | decide) ?_
  refine G_icmp_neN (pc := 81) (tgt := 96) (by omega) (by omega) dL_act_81 (by decide) (fun _ => ?_) (fun h => absurd h (by decide))
  refine G_iload_n (pc := 96) dL_act_96 rfl ?_
  refine G_bipush (pc := 97) (v := nI 7) dL_act_97 (by first | rfl | decide) ?_
  refine G_icmp_neN (pc := 99) (tgt := 114) (by omega) (by omega) dL_act_99 (by decide) (fun _ => ?_) (fun h => absurd h (by decide))
  refine G_iload_n (pc := 114) dL_act_114 rfl ?_
  refine G_bipush (pc := 115) (v := nI 8) dL_act_115 (by first | rfl | decide) ?_
  refine G_icmp_neN (pc := 117) (tgt := 129) (by omega) (by omega) dL_act_117 (by decide) (fun _ => ?_) (fun h => absurd h (by decide))
  refine G_iload_n (pc := 129) dL_act_129 rfl ?_
  refine G_bipush (pc := 130) (v := nI 9) dL_act_130 (by first | rfl | decide) ?_
  refine G_icmp_neN (pc := 132) (tgt := 146) (by omega) (by omega) dL_act_132 (by decide) (fun _ => ?_) (fun h => absurd h (by decide))
  refine G_iload_n (pc := 146) dL_act_146 rfl ?_
  refine G_bipush (pc := 147) (v := nI 10) dL_act_147 (by first | rfl | decide) ?_
  refine G_icmp_neN (pc := 149) (tgt := 161) (by omega) (by omega) dL_act_149 (by decide) (fun _ => ?_) (fun h => absurd h (by decide))
  refine G_iload_n (pc := 161) dL_act_161 rfl ?_
  refine G_bipush (pc := 162) (v := nI 11) dL_act_162 (by first | rfl | decide) ?_
  refine G_icmp_neN (pc := 164) (tgt := 175) (by omega) (by omega) dL_act_164 (by decide) (fun _ => ?_) (fun h => absurd h (by decide))
  refine G_iload_n (pc := 175) dL_act_175 rfl ?_
  refine G_bipush (pc := 176) (v := nI 12) dL_act_176 (by first | rfl | decide) ?_
  refine G_icmp_neN (pc := 178) (tgt := 189) (by omega) (by omega) dL_act_178 (by decide) (fun _ => ?_) (fun h => absurd h (by decide))
  refine G_iload_n (pc := 189) dL_act_189 rfl ?_
  refine G_bipush (pc := 190) (v := nI 13) dL_act_190 (by first | rfl | decide) ?_
  refine G_icmp_neN (pc := 192) (tgt := 211) (by omega) (by omega) dL_act_192 (by decide) (fun _ => ?_) (fun h => absurd h (by decide))
  refine G_iload_n (pc := 211) dL_act_211 rfl ?_
  refine G_bipush (pc := 212) (v := nI 14) dL_act_212 (by first | rfl | decide) ?_
  refine G_icmp_neN (pc := 214) (tgt := 225) (by omega) (by omega) dL_act_214 (by decide) (fun _ => ?_) (fun h => absurd h (by decide))
  refine G_iload_n (pc := 225) dL_act_225 rfl ?_
  refine G_bipush (pc := 226) (v := nI 15) dL_act_226 (by first | rfl | decide) ?_
  refine G_icmp_neN (pc := 228) (tgt := 239) (by omega) (by omega) dL_act_228 (by decide) (fun _ => ?_) (fun h => absurd h (by decide))
  refine G_iload_n (pc := 239) dL_act_239 rfl ?_
  refine G_bipush (pc := 240) (v := nI 16) dL_act_240 (by first | rfl | decide) ?_
  refine G_icmp_neN (pc := 242) (tgt := 253) (by omega) (by omega) dL_act_242 (by decide) (fun _ => ?_) (fun h => absurd h (by decide))
  refine G_iload_n (pc := 253) dL_act_253 rfl ?_
  refine G_bipush (pc := 254) (v := nI 17) dL_act_254 (by first | rfl | decide) ?_
  refine G_icmp_neN (pc := 256) (tgt := 267) (by omega) (by omega) dL_act_256 (by decide) (fun h => absurd h (by decide)) (fun _ => ?_)
  refine G_aload_n (pc := 259) dL_act_259 rfl ?_
  refine G_iload_n (pc := 260) dL_act_260 rfl ?_
  refine K_V1 (pc := 261) (k' := (1, 6)) mok_X9_owes lk_L_62 (sh_k hH) rfl rfl rfl (aok0 rfl) dL_act_261 (hop) rfl (fun v1 Y1 q1 => ?_) (fun E1 Y1 q1 => ?_)
  · obtain ⟨e1, e2, e3⟩ := q1; subst e1
    show G _ _ _ _ _ _ _ (_ :: _) _
    refine G_goto (pc := 264) (tgt := 494) dL_act_264 (by decide) ?_
    refine G_iret (pc := 494) VZ.x dL_act_494 rfl ⟨by decide, by decide⟩ ?_
    exact hv _ e2 e3
  · obtain ⟨i9, h1, h2, h3⟩ := q1
    rcases hes E1 (List.mem_of_getElem? h1) with rfl | rfl | rfl
    · refine GX_catch [] _ _ rfl (fun z hz => absurd hz List.not_mem_nil) rfl (by decide) cl_L_111 ct_IO (hp := 495) (i := 5) (len := 2) rfl (Or.inr ⟨rfl, dL_act_495⟩) (by decide) ?_
      refine G_bipush (pc := 497) (v := -71) dL_act_497 (by first | rfl | decide) ?_
      refine G_iret (pc := 499) VZ.x dL_act_499 rfl ⟨by decide, by decide⟩ ?_
      have e := hx i9 _ _ h1 h2 h3
      rw [xc_IO] at e
      exact e
    · refine GX_catch [_] _ _ rfl (fun z hz => by rw [List.mem_singleton.mp hz]; exact Or.inr ⟨by decide, _, cl_L_111, by decide⟩) rfl (by decide) cl_L_113 ct_IA (hp := 500) (i := 5) (len := 2) rfl (Or.inr ⟨rfl, dL_act_500⟩) (by decide) ?_
      refine G_bipush (pc := 502) (v := -72) dL_act_502 (by first | rfl | decide) ?_
      refine G_iret (pc := 504) VZ.x dL_act_504 rfl ⟨by decide, by decide⟩ ?_
      have e := hx i9 _ _ h1 h2 h3
      rw [xc_IA] at e
      exact e
    · refine GX_catch [_, _] _ _ rfl (fun z hz => by rcases List.mem_cons.mp hz with rfl | hz; exact Or.inr ⟨by decide, _, cl_L_111, by decide⟩; rw [List.mem_singleton.mp hz]; exact Or.inr ⟨by decide, _, cl_L_113, by decide⟩) rfl (by decide) cl_L_115 ct_IS (hp := 505) (i := 5) (len := 2) rfl (Or.inr ⟨rfl, dL_act_505⟩) (by decide) ?_
      refine G_bipush (pc := 507) (v := -73) dL_act_507 (by first | rfl | decide) ?_
      refine G_iret (pc := 509) VZ.x dL_act_509 rfl ⟨by decide, by decide⟩ ?_
      have e := hx i9 _ _ h1 h2 h3
      rw [xc_IS] at e
      exact e
theorem act_18 {Γ : GTy} {Z : HS} {P : HS → FT → Prop} {F' : FT} {x y z b : Int32} {es : List String} {QV' : Option Value → HS → Prop} (hH : SH Z) (hop : Tt Γ M_X9_owesAnew [.ref 800000, .int x] Z (QVo P Z F' b) (QXo P Z F' es)) (hes : ∀ E, E ∈ es → E = xIO ∨ E = xIA ∨ E = xIS) (hv : ∀ Z' : HS, F' 25 0 = nI 0 → P Z' F' → QV' (some (.int b)) Z') (hx : ∀ (i : Nat) (E : String) (Z' : HS), es[i]? = some E → F' 25 0 = nI (i + 1) → P Z' F' → QV' (some (.int (xc E))) Z') : Tw Γ M_L_act [.ref 800000, .int (nI 18), .int x, .int y, .int z] Z QV' noX := by
  refine Tw_of' rfl rfl ?_
  show G Γ M_L_act (rm M_L_act) (Vt Γ M_L_act QV' noX) (0, 0) 0 [some (.ref 800000), some (.int (nI 18)), some (.int x), some (.int y), some (.int z), none] [] Z
  refine G_iload_n (pc := 0) dL_act_0 rfl ?_
  refine G_if_neN (pc := 1) (tgt := 12) (by omega) dL_act_1 (by decide) (fun _ => ?_) (fun h => absurd h (by decide))
  refine G_iload_n (pc := 12) dL_act_12 rfl ?_
  refine G_iconst (pc := 13) (v := nI 1) dL_act_13 (by first | rfl | decide) ?_
  refine G_icmp_neN (pc := 14) (tgt := 26) (by omega) (by omega) dL_act_14 (by decide) (fun _ => ?_) (fun h => absurd h (by decide))
  refine G_iload_n (pc := 26) dL_act_26 rfl ?_
  refine G_iconst (pc := 27) (v := nI 2) dL_act_27 (by first | rfl | decide) ?_
  refine G_icmp_neN (pc := 28) (tgt := 39) (by omega) (by omega) dL_act_28 (by decide) (fun _ => ?_) (fun h => absurd h (by decide))
  refine G_iload_n (pc := 39) dL_act_39 rfl ?_
  refine G_iconst (pc := 40) (v := nI 3) dL_act_40 (by first | rfl | decide) ?_
  refine G_icmp_neN (pc := 41) (tgt := 52) (by omega) (by omega) dL_act_41 (by decide) (fun _ => ?_) (fun h => absurd h (by decide))
  refine G_iload_n (pc := 52) dL_act_52 rfl ?_
  refine G_iconst (pc := 53) (v := nI 4) dL_act_53 (by first | rfl | decide) ?_
  refine G_icmp_neN (pc := 54) (tgt := 65) (by omega) (by omega) dL_act_54 (by decide) (fun _ => ?_) (fun h => absurd h (by decide))
  refine G_iload_n (pc := 65) dL_act_65 rfl ?_
  refine G_iconst (pc := 66) (v := nI 5) dL_act_66 (by first | rfl | decide) ?_
  refine G_icmp_neN (pc := 67) (tgt := 78) (by omega) (by omega) dL_act_67 (by decide) (fun _ => ?_) (fun h => absurd h (by decide))
  refine G_iload_n (pc := 78) dL_act_78 rfl ?_
  refine G_bipush (pc := 79) (v := nI 6) dL_act_79 (by first | rfl | decide) ?_
  refine G_icmp_neN (pc := 81) (tgt := 96) (by omega) (by omega) dL_act_81 (by decide) (fun _ => ?_) (fun h => absurd h (by decide))
  refine G_iload_n (pc := 96) dL_act_96 rfl ?_
  refine G_bipush (pc := 97) (v := nI 7) dL_act_97 (by first | rfl | decide) ?_
  refine G_icmp_neN (pc := 99) (tgt := 114) (by omega) (by omega) dL_act_99 (by decide) (fun _ => ?_) (fun h => absurd h (by decide))
  refine G_iload_n (pc := 114) dL_act_114 rfl ?_
  refine G_bipush (pc := 115) (v := nI 8) dL_act_115 (by first | rfl | decide) ?_
  refine G_icmp_neN (pc := 117) (tgt := 129) (by omega) (by omega) dL_act_117 (by decide) (fun _ => ?_) (fun h => absurd h (by decide))
  refine G_iload_n (pc := 129) dL_act_129 rfl ?_
  refine G_bipush (pc := 130) (v := nI 9) dL_act_130 (by first | rfl | decide) ?_
  refine G_icmp_neN (pc := 132) (tgt := 146) (by omega) (by omega) dL_act_132 (by decide) (fun _ => ?_) (fun h => absurd h (by decide))
  refine G_iload_n (pc := 146) dL_act_146 rfl ?_
  refine G_bipush (pc := 147) (v := nI 10) dL_act_147 (by first | rfl | decide) ?_
  refine G_icmp_neN (pc := 149) (tgt := 161) (by omega) (by omega) dL_act_149 (by decide) (fun _ => ?_) (fun h => absurd h (by decide))
  refine G_iload_n (pc := 161) dL_act_161 rfl ?_
  refine G_bipush (pc := 162) (v := nI 11) dL_act_162 (by first | rfl | decide) ?_
  refine G_icmp_neN (pc := 164) (tgt := 175) (by omega) (by omega) dL_act_164 (by decide) (fun _ => ?_) (fun h => absurd h (by decide))
  refine G_iload_n (pc := 175) dL_act_175 rfl ?_
  refine G_bipush (pc := 176) (v := nI 12) dL_act_176 (by first | rfl | decide) ?_
  refine G_icmp_neN (pc := 178) (tgt := 189) (by omega) (by omega) dL_act_178 (by decide) (fun _ => ?_) (fun h => absurd h (by decide))
  refine G_iload_n (pc := 189) dL_act_189 rfl ?_
  refine G_bipush (pc := 190) (v := nI 13) dL_act_190 (by first | rfl | decide) ?_
  refine G_icmp_neN (pc := 192) (tgt := 211) (by omega) (by omega) dL_act_192 (by decide) (fun _ => ?_) (fun h => absurd h (by decide))
  refine G_iload_n (pc := 211) dL_act_211 rfl ?_
  refine G_bipush (pc := 212) (v := nI 14) dL_act_212 (by first | rfl | decide) ?_
  refine G_icmp_neN (pc := 214) (tgt := 225) (by omega) (by omega) dL_act_214 (by decide) (fun _ => ?_) (fun h => absurd h (by decide))
  refine G_iload_n (pc := 225) dL_act_225 rfl ?_
  refine G_bipush (pc := 226) (v := nI 15) dL_act_226 (by first | rfl | decide) ?_
  refine G_icmp_neN (pc := 228) (tgt := 239) (by omega) (by omega) dL_act_228 (by decide) (fun _ => ?_) (fun h => absurd h (by decide))
  refine G_iload_n (pc := 239) dL_act_239 rfl ?_
  refine G_bipush (pc := 240) (v := nI 16) dL_act_240 (by first | rfl | decide) ?_
  refine G_icmp_neN (pc := 242) (tgt := 253) (by omega) (by omega) dL_act_242 (by decide) (fun _ => ?_) (fun h => absurd h (by decide))
  refine G_iload_n (pc := 253) dL_act_253 rfl ?_
  refine G_bipush (pc := 254) (v := nI 17) dL_act_254 (by first | rfl | decide) ?_
  refine G_icmp_neN (pc := 256) (tgt := 267) (by omega) (by omega) dL_act_256 (by decide) (fun _ => ?_) (fun h => absurd h (by decide))
  refine G_iload_n (pc := 267) dL_act_267 rfl ?_
  refine G_bipush (pc := 268) (v := nI 18) dL_act_268 (by first | rfl | decide) ?_
  refine G_icmp_neN (pc := 270) (tgt := 281) (by omega) (by omega) dL_act_270 (by decide) (fun h => absurd h (by decide)) (fun _ => ?_)
  refine G_aload_n (pc := 273) dL_act_273 rfl ?_
  refine G_iload_n (pc := 274) dL_act_274 rfl ?_
  refine K_V1 (pc := 275) (k' := (1, 6)) mok_X9_owesAnew lk_L_65 (sh_k hH) rfl rfl rfl (aok0 rfl) dL_act_275 (hop) rfl (fun v1 Y1 q1 => ?_) (fun E1 Y1 q1 => ?_)
  · obtain ⟨e1, e2, e3⟩ := q1; subst e1
    show G _ _ _ _ _ _ _ (_ :: _) _
    refine G_goto (pc := 278) (tgt := 494) dL_act_278 (by decide) ?_
    refine G_iret (pc := 494) VZ.x dL_act_494 rfl ⟨by decide, by decide⟩ ?_
    exact hv _ e2 e3
  · obtain ⟨i9, h1, h2, h3⟩ := q1
    rcases hes E1 (List.mem_of_getElem? h1) with rfl | rfl | rfl
    · refine GX_catch [] _ _ rfl (fun z hz => absurd hz List.not_mem_nil) rfl (by decide) cl_L_111 ct_IO (hp := 495) (i := 5) (len := 2) rfl (Or.inr ⟨rfl, dL_act_495⟩) (by decide) ?_
      refine G_bipush (pc := 497) (v := -71) dL_act_497 (by first | rfl | decide) ?_
      refine G_iret (pc := 499) VZ.x dL_act_499 rfl ⟨by decide, by decide⟩ ?_
      have e := hx i9 _ _ h1 h2 h3
      rw [xc_IO] at e
      exact e
    · refine GX_catch [_] _ _ rfl (fun z hz => by rw [List.mem_singleton.mp hz]; exact Or.inr ⟨by decide, _, cl_L_111, by decide⟩) rfl (by decide) cl_L_113 ct_IA (hp := 500) (i := 5) (len := 2) rfl (Or.inr ⟨rfl, dL_act_500⟩) (by decide) ?_
      refine G_bipush (pc := 502) (v := -72) dL_act_502 (by first | rfl | decide) ?_
      refine G_iret (pc := 504) VZ.x dL_act_504 rfl ⟨by decide, by decide⟩ ?_
      have e := hx i9 _ _ h1 h2 h3
      rw [xc_IA] at e
      exact e
    · refine GX_catch [_, _] _ _ rfl (fun z hz => by rcases List.mem_cons.mp hz with rfl | hz; exact Or.inr ⟨by decide, _, cl_L_111, by decide⟩; rw [List.mem_singleton.mp hz]; exact Or.inr ⟨by decide, _, cl_L_113, by decide⟩) rfl (by decide) cl_L_115 ct_IS (hp := 505) (i := 5) (len := 2) rfl (Or.inr ⟨rfl, dL_act_505⟩) (by decide) ?_
      refine G_bipush (pc := 507) (v := -73) dL_act_507 (by first | rfl | decide) ?_
      refine G_iret (pc := 509) VZ.x dL_act_509 rfl ⟨by decide, by decide⟩ ?_
      have e := hx i9 _ _ h1 h2 h3
      rw [xc_IS] at e
      exact e
theorem act_19 {Γ : GTy} {Z : HS} {P : HS → FT → Prop} {F' : FT} {x y z b : Int32} {es : List String} {QV' : Option Value → HS → Prop} (hH : SH Z) (hop : Tt Γ M_X9_wins [.ref 800000, .int x] Z (QVo P Z F' b) (QXo P Z F' es)) (hes : ∀ E, E ∈ es → E = xIO ∨ E = xIA ∨ E = xIS) (hv : ∀ Z' : HS, F' 25 0 = nI 0 → P Z' F' → QV' (some (.int b)) Z') (hx : ∀ (i : Nat) (E : String) (Z' : HS), es[i]? = some E → F' 25 0 = nI (i + 1) → P Z' F' → QV' (some (.int (xc E))) Z') : Tw Γ M_L_act [.ref 800000, .int (nI 19), .int x, .int y, .int z] Z QV' noX := by
  refine Tw_of' rfl rfl ?_
  show G Γ M_L_act (rm M_L_act) (Vt Γ M_L_act QV' noX) (0, 0) 0 [some (.ref 800000), some (.int (nI 19)), some (.int x), some (.int y), some (.int z), none] [] Z
  refine G_iload_n (pc := 0) dL_act_0 rfl ?_
  refine G_if_neN (pc := 1) (tgt := 12) (by omega) dL_act_1 (by decide) (fun _ => ?_) (fun h => absurd h (by decide))
  refine G_iload_n (pc := 12) dL_act_12 rfl ?_
  refine G_iconst (pc := 13) (v := nI 1) dL_act_13 (by first | rfl | decide) ?_
  refine G_icmp_neN (pc := 14) (tgt := 26) (by omega) (by omega) dL_act_14 (by decide) (fun _ => ?_) (fun h => absurd h (by decide))
  refine G_iload_n (pc := 26) dL_act_26 rfl ?_
  refine G_iconst (pc := 27) (v := nI 2) dL_act_27 (by first | rfl | decide) ?_
  refine G_icmp_neN (pc := 28) (tgt := 39) (by omega) (by omega) dL_act_28 (by decide) (fun _ => ?_) (fun h => absurd h (by decide))
  refine G_iload_n (pc := 39) dL_act_39 rfl ?_
  refine G_iconst (pc := 40) (v := nI 3) dL_act_40 (by first | rfl | decide) ?_
  refine G_icmp_neN (pc := 41) (tgt := 52) (by omega) (by omega) dL_act_41 (by decide) (fun _ => ?_) (fun h => absurd h (by decide))
  refine G_iload_n (pc := 52) dL_act_52 rfl ?_
  refine G_iconst (pc := 53) (v := nI 4) dL_act_53 (by first | rfl | decide) ?_
  refine G_icmp_neN (pc := 54) (tgt := 65) (by omega) (by omega) dL_act_54 (by decide) (fun _ => ?_) (fun h => absurd h (by decide))
  refine G_iload_n (pc := 65) dL_act_65 rfl ?_
  refine G_iconst (pc := 66) (v := nI 5) dL_act_66 (by first | rfl | decide) ?_
  refine G_icmp_neN (pc := 67) (tgt := 78) (by omega) (by omega) dL_act_67 (by decide) (fun _ => ?_) (fun h => absurd h (by decide))
  refine G_iload_n (pc := 78) dL_act_78 rfl ?_
  refine G_bipush (pc := 79) (v := nI 6) dL_act_79 (by first | rfl | decide) ?_
  refine G_icmp_neN (pc := 81) (tgt := 96) (by omega) (by omega) dL_act_81 (by decide) (fun _ => ?_) (fun h => absurd h (by decide))
  refine G_iload_n (pc := 96) dL_act_96 rfl ?_
  refine G_bipush (pc := 97) (v := nI 7) dL_act_97 (by first | rfl | decide) ?_
  refine G_icmp_neN (pc := 99) (tgt := 114) (by omega) (by omega) dL_act_99 (by decide) (fun _ => ?_) (fun h => absurd h (by decide))
  refine G_iload_n (pc := 114) dL_act_114 rfl ?_
  refine G_bipush (pc := 115) (v := nI 8) dL_act_115 (by first | rfl | decide) ?_
  refine G_icmp_neN (pc := 117) (tgt := 129) (by omega) (by omega) dL_act_117 (by decide) (fun _ => ?_) (fun h => absurd h (by decide))
  refine G_iload_n (pc := 129) dL_act_129 rfl ?_
  refine G_bipush (pc := 130) (v := nI 9) dL_act_130 (by first | rfl | decide) ?_
  refine G_icmp_neN (pc := 132) (tgt := 146) (by omega) (by omega) dL_act_132 (by decide) (fun _ => ?_) (fun h => absurd h (by decide))
  refine G_iload_n (pc := 146) dL_act_146 rfl ?_
  refine G_bipush (pc := 147) (v := nI 10) dL_act_147 (by first | rfl | decide) ?_
  refine G_icmp_neN (pc := 149) (tgt := 161) (by omega) (by omega) dL_act_149 (by decide) (fun _ => ?_) (fun h => absurd h (by decide))
  refine G_iload_n (pc := 161) dL_act_161 rfl ?_
  refine G_bipush (pc := 162) (v := nI 11) dL_act_162 (by first | rfl | decide) ?_
  refine G_icmp_neN (pc := 164) (tgt := 175) (by omega) (by omega) dL_act_164 (by decide) (fun _ => ?_) (fun h => absurd h (by decide))
  refine G_iload_n (pc := 175) dL_act_175 rfl ?_
  refine G_bipush (pc := 176) (v := nI 12) dL_act_176 (by first | rfl | decide) ?_
  refine G_icmp_neN (pc := 178) (tgt := 189) (by omega) (by omega) dL_act_178 (by decide) (fun _ => ?_) (fun h => absurd h (by decide))
  refine G_iload_n (pc := 189) dL_act_189 rfl ?_
  refine G_bipush (pc := 190) (v := nI 13) dL_act_190 (by first | rfl | decide) ?_
  refine G_icmp_neN (pc := 192) (tgt := 211) (by omega) (by omega) dL_act_192 (by decide) (fun _ => ?_) (fun h => absurd h (by decide))
  refine G_iload_n (pc := 211) dL_act_211 rfl ?_
  refine G_bipush (pc := 212) (v := nI 14) dL_act_212 (by first | rfl | decide) ?_
  refine G_icmp_neN (pc := 214) (tgt := 225) (by omega) (by omega) dL_act_214 (by decide) (fun _ => ?_) (fun h => absurd h (by decide))
  refine G_iload_n (pc := 225) dL_act_225 rfl ?_
  refine G_bipush (pc := 226) (v := nI 15) dL_act_226 (by first | rfl | decide) ?_
  refine G_icmp_neN (pc := 228) (tgt := 239) (by omega) (by omega) dL_act_228 (by decide) (fun _ => ?_) (fun h => absurd h (by decide))
  refine G_iload_n (pc := 239) dL_act_239 rfl ?_
  refine G_bipush (pc := 240) (v := nI 16) dL_act_240 (by first | rfl | decide) ?_
  refine G_icmp_neN (pc := 242) (tgt := 253) (by omega) (by omega) dL_act_242 (by decide) (fun _ => ?_) (fun h => absurd h (by decide))
  refine G_iload_n (pc := 253) dL_act_253 rfl ?_
  refine G_bipush (pc := 254) (v := nI 17) dL_act_254 (by first | rfl | decide) ?_
  refine G_icmp_neN (pc := 256) (tgt := 267) (by omega) (by omega) dL_act_256 (by decide) (fun _ => ?_) (fun h => absurd h (by decide))
  refine G_iload_n (pc := 267) dL_act_267 rfl ?_
  refine G_bipush (pc := 268) (v := nI 18) dL_act_268 (by first | rfl | decide) ?_
  refine G_icmp_neN (pc := 270) (tgt := 281) (by omega) (by omega) dL_act_270 (by decide) (fun _ => ?_) (fun h => absurd h (by decide))
  refine G_iload_n (pc := 281) dL_act_281 rfl ?_
  refine G_bipush (pc := 282) (v := nI 19) dL_act_282 (by first | rfl | decide) ?_
  refine G_icmp_neN (pc := 284) (tgt := 295) (by omega) (by omega) dL_act_284 (by decide) (fun h => absurd h (by decide)) (fun _ => ?_)
  refine G_aload_n (pc := 287) dL_act_287 rfl ?_
  refine G_iload_n (pc := 288) dL_act_288 rfl ?_
  refine K_V1 (pc := 289) (k' := (1, 6)) mok_X9_wins lk_L_68 (sh_k hH) rfl rfl rfl (aok0 rfl) dL_act_289 (hop) rfl (fun v1 Y1 q1 => ?_) (fun E1 Y1 q1 => ?_)
  · obtain ⟨e1, e2, e3⟩ := q1; subst e1
    show G _ _ _ _ _ _ _ (_ :: _) _
    refine G_goto (pc := 292) (tgt := 494) dL_act_292 (by decide) ?_
    refine G_iret (pc := 494) VZ.x dL_act_494 rfl ⟨by decide, by decide⟩ ?_
    exact hv _ e2 e3
  · obtain ⟨i9, h1, h2, h3⟩ := q1
    rcases hes E1 (List.mem_of_getElem? h1) with rfl | rfl | rfl
    · refine GX_catch [] _ _ rfl (fun z hz => absurd hz List.not_mem_nil) rfl (by decide) cl_L_111 ct_IO (hp := 495) (i := 5) (len := 2) rfl (Or.inr ⟨rfl, dL_act_495⟩) (by decide) ?_
      refine G_bipush (pc := 497) (v := -71) dL_act_497 (by first | rfl | decide) ?_
      refine G_iret (pc := 499) VZ.x dL_act_499 rfl ⟨by decide, by decide⟩ ?_
      have e := hx i9 _ _ h1 h2 h3
      rw [xc_IO] at e
      exact e
    · refine GX_catch [_] _ _ rfl (fun z hz => by rw [List.mem_singleton.mp hz]; exact Or.inr ⟨by decide, _, cl_L_111, by decide⟩) rfl (by decide) cl_L_113 ct_IA (hp := 500) (i := 5) (len := 2) rfl (Or.inr ⟨rfl, dL_act_500⟩) (by decide) ?_
      refine G_bipush (pc := 502) (v := -72) dL_act_502 (by first | rfl | decide) ?_
      refine G_iret (pc := 504) VZ.x dL_act_504 rfl ⟨by decide, by decide⟩ ?_
      have e := hx i9 _ _ h1 h2 h3
      rw [xc_IA] at e
      exact e
    · refine GX_catch [_, _] _ _ rfl (fun z hz => by rcases List.mem_cons.mp hz with rfl | hz; exact Or.inr ⟨by decide, _, cl_L_111, by decide⟩; rw [List.mem_singleton.mp hz]; exact Or.inr ⟨by decide, _, cl_L_113, by decide⟩) rfl (by decide) cl_L_115 ct_IS (hp := 505) (i := 5) (len := 2) rfl (Or.inr ⟨rfl, dL_act_505⟩) (by decide) ?_
      refine G_bipush (pc := 507) (v := -73) dL_act_507 (by first | rfl | decide) ?_
      refine G_iret (pc := 509) VZ.x dL_act_509 rfl ⟨by decide, by decide⟩ ?_
      have e := hx i9 _ _ h1 h2 h3
      rw [xc_IS] at e
      exact e
theorem act_20 {Γ : GTy} {Z : HS} {P : HS → FT → Prop} {F' : FT} {x y z b : Int32} {es : List String} {QV' : Option Value → HS → Prop} (hH : SH Z) (hop : Tt Γ M_X9_rank [.ref 800000, .int x] Z (QVo P Z F' b) (QXo P Z F' es)) (hes : ∀ E, E ∈ es → E = xIO ∨ E = xIA ∨ E = xIS) (hv : ∀ Z' : HS, F' 25 0 = nI 0 → P Z' F' → QV' (some (.int b)) Z') (hx : ∀ (i : Nat) (E : String) (Z' : HS), es[i]? = some E → F' 25 0 = nI (i + 1) → P Z' F' → QV' (some (.int (xc E))) Z') : Tw Γ M_L_act [.ref 800000, .int (nI 20), .int x, .int y, .int z] Z QV' noX := by
  refine Tw_of' rfl rfl ?_
  show G Γ M_L_act (rm M_L_act) (Vt Γ M_L_act QV' noX) (0, 0) 0 [some (.ref 800000), some (.int (nI 20)), some (.int x), some (.int y), some (.int z), none] [] Z
  refine G_iload_n (pc := 0) dL_act_0 rfl ?_
  refine G_if_neN (pc := 1) (tgt := 12) (by omega) dL_act_1 (by decide) (fun _ => ?_) (fun h => absurd h (by decide))
  refine G_iload_n (pc := 12) dL_act_12 rfl ?_
  refine G_iconst (pc := 13) (v := nI 1) dL_act_13 (by first | rfl | decide) ?_
  refine G_icmp_neN (pc := 14) (tgt := 26) (by omega) (by omega) dL_act_14 (by decide) (fun _ => ?_) (fun h => absurd h (by decide))
  refine G_iload_n (pc := 26) dL_act_26 rfl ?_
  refine G_iconst (pc := 27) (v := nI 2) dL_act_27 (by first | rfl | decide) ?_
  refine G_icmp_neN (pc := 28) (tgt := 39) (by omega) (by omega) dL_act_28 (by decide) (fun _ => ?_) (fun h => absurd h (by decide))
  refine G_iload_n (pc := 39) dL_act_39 rfl ?_
  refine G_iconst (pc := 40) (v := nI 3) dL_act_40 (by first | rfl | decide) ?_
  refine G_icmp_neN (pc := 41) (tgt := 52) (by omega) (by omega) dL_act_41 (by decide) (fun _ => ?_) (fun h => absurd h (by decide))
  refine G_iload_n (pc := 52) dL_act_52 rfl ?_
  refine G_iconst (pc := 53) (v := nI 4) dL_act_53 (by first | rfl | decide) ?_
  refine G_icmp_neN (pc := 54) (tgt := 65) (by omega) (by omega) dL_act_54 (by decide) (fun _ => ?_) (fun h => absurd h (by decide))
  refine G_iload_n (pc := 65) dL_act_65 rfl ?_
  refine G_iconst (pc := 66) (v := nI 5) dL_act_66 (by first | rfl | decide) ?_
  refine G_icmp_neN (pc := 67) (tgt := 78) (by omega) (by omega) dL_act_67 (by decide) (fun _ => ?_) (fun h => absurd h (by decide))
  refine G_iload_n (pc := 78) dL_act_78 rfl ?_
  refine G_bipush (pc := 79) (v := nI 6) dL_act_79 (by first | rfl | decide) ?_
  refine G_icmp_neN (pc := 81) (tgt := 96) (by omega) (by omega) dL_act_81 (by decide) (fun _ => ?_) (fun h => absurd h (by decide))
  refine G_iload_n (pc := 96) dL_act_96 rfl ?_
  refine G_bipush (pc := 97) (v := nI 7) dL_act_97 (by first | rfl | decide) ?_
  refine G_icmp_neN (pc := 99) (tgt := 114) (by omega) (by omega) dL_act_99 (by decide) (fun _ => ?_) (fun h => absurd h (by decide))
  refine G_iload_n (pc := 114) dL_act_114 rfl ?_
  refine G_bipush (pc := 115) (v := nI 8) dL_act_115 (by first | rfl | decide) ?_
  refine G_icmp_neN (pc := 117) (tgt := 129) (by omega) (by omega) dL_act_117 (by decide) (fun _ => ?_) (fun h => absurd h (by decide))
  refine G_iload_n (pc := 129) dL_act_129 rfl ?_
  refine G_bipush (pc := 130) (v := nI 9) dL_act_130 (by first | rfl | decide) ?_
  refine G_icmp_neN (pc := 132) (tgt := 146) (by omega) (by omega) dL_act_132 (by decide) (fun _ => ?_) (fun h => absurd h (by decide))
  refine G_iload_n (pc := 146) dL_act_146 rfl ?_
  refine G_bipush (pc := 147) (v := nI 10) dL_act_147 (by first | rfl | decide) ?_
  refine G_icmp_neN (pc := 149) (tgt := 161) (by omega) (by omega) dL_act_149 (by decide) (fun _ => ?_) (fun h => absurd h (by decide))
  refine G_iload_n (pc := 161) dL_act_161 rfl ?_
  refine G_bipush (pc := 162) (v := nI 11) dL_act_162 (by first | rfl | decide) ?_
  refine G_icmp_neN (pc := 164) (tgt := 175) (by omega) (by omega) dL_act_164 (by decide) (fun _ => ?_) (fun h => absurd h (by decide))
  refine G_iload_n (pc := 175) dL_act_175 rfl ?_
  refine G_bipush (pc := 176) (v := nI 12) dL_act_176 (by first | rfl | decide) ?_
  refine G_icmp_neN (pc := 178) (tgt := 189) (by omega) (by omega) dL_act_178 (by decide) (fun _ => ?_) (fun h => absurd h (by decide))
  refine G_iload_n (pc := 189) dL_act_189 rfl ?_
  refine G_bipush (pc := 190) (v := nI 13) dL_act_190 (by first | rfl | decide) ?_
  refine G_icmp_neN (pc := 192) (tgt := 211) (by omega) (by omega) dL_act_192 (by decide) (fun _ => ?_) (fun h => absurd h (by decide))
  refine G_iload_n (pc := 211) dL_act_211 rfl ?_
  refine G_bipush (pc := 212) (v := nI 14) dL_act_212 (by first | rfl | decide) ?_
  refine G_icmp_neN (pc := 214) (tgt := 225) (by omega) (by omega) dL_act_214 (by decide) (fun _ => ?_) (fun h => absurd h (by decide))
  refine G_iload_n (pc := 225) dL_act_225 rfl ?_
  refine G_bipush (pc := 226) (v := nI 15) dL_act_226 (by first | rfl | decide) ?_
  refine G_icmp_neN (pc := 228) (tgt := 239) (by omega) (by omega) dL_act_228 (by decide) (fun _ => ?_) (fun h => absurd h (by decide))
  refine G_iload_n (pc := 239) dL_act_239 rfl ?_
  refine G_bipush (pc := 240) (v := nI 16) dL_act_240 (by first | rfl | decide) ?_
  refine G_icmp_neN (pc := 242) (tgt := 253) (by omega) (by omega) dL_act_242 (by decide) (fun _ => ?_) (fun h => absurd h (by decide))
  refine G_iload_n (pc := 253) dL_act_253 rfl ?_
  refine G_bipush (pc := 254) (v := nI 17) dL_act_254 (by first | rfl | decide) ?_
  refine G_icmp_neN (pc := 256) (tgt := 267) (by omega) (by omega) dL_act_256 (by decide) (fun _ => ?_) (fun h => absurd h (by decide))
  refine G_iload_n (pc := 267) dL_act_267 rfl ?_
  refine G_bipush (pc := 268) (v := nI 18) dL_act_268 (by first | rfl | decide) ?_
  refine G_icmp_neN (pc := 270) (tgt := 281) (by omega) (by omega) dL_act_270 (by decide) (fun _ => ?_) (fun h => absurd h (by decide))
  refine G_iload_n (pc := 281) dL_act_281 rfl ?_
  refine G_bipush (pc := 282) (v := nI 19) dL_act_282 (by first | rfl | decide) ?_
  refine G_icmp_neN (pc := 284) (tgt := 295) (by omega) (by omega) dL_act_284 (by decide) (fun _ => ?_) (fun h => absurd h (by decide))
  refine G_iload_n (pc := 295) dL_act_295 rfl ?_
  refine G_bipush (pc := 296) (v := nI 20) dL_act_296 (by first | rfl | decide) ?_
  refine G_icmp_neN (pc := 298) (tgt := 309) (by omega) (by omega) dL_act_298 (by decide) (fun h => absurd h (by decide)) (fun _ => ?_)
  refine G_aload_n (pc := 301) dL_act_301 rfl ?_
  refine G_iload_n (pc := 302) dL_act_302 rfl ?_
  refine K_V1 (pc := 303) (k' := (1, 6)) mok_X9_rank lk_L_71 (sh_k hH) rfl rfl rfl (aok0 rfl) dL_act_303 (hop) rfl (fun v1 Y1 q1 => ?_) (fun E1 Y1 q1 => ?_)
  · obtain ⟨e1, e2, e3⟩ := q1; subst e1
    show G _ _ _ _ _ _ _ (_ :: _) _
    refine G_goto (pc := 306) (tgt := 494) dL_act_306 (by decide) ?_
    refine G_iret (pc := 494) VZ.x dL_act_494 rfl ⟨by decide, by decide⟩ ?_
    exact hv _ e2 e3
  · obtain ⟨i9, h1, h2, h3⟩ := q1
    rcases hes E1 (List.mem_of_getElem? h1) with rfl | rfl | rfl
    · refine GX_catch [] _ _ rfl (fun z hz => absurd hz List.not_mem_nil) rfl (by decide) cl_L_111 ct_IO (hp := 495) (i := 5) (len := 2) rfl (Or.inr ⟨rfl, dL_act_495⟩) (by decide) ?_
      refine G_bipush (pc := 497) (v := -71) dL_act_497 (by first | rfl | decide) ?_
      refine G_iret (pc := 499) VZ.x dL_act_499 rfl ⟨by decide, by decide⟩ ?_
      have e := hx i9 _ _ h1 h2 h3
      rw [xc_IO] at e
      exact e
    · refine GX_catch [_] _ _ rfl (fun z hz => by rw [List.mem_singleton.mp hz]; exact Or.inr ⟨by decide, _, cl_L_111, by decide⟩) rfl (by decide) cl_L_113 ct_IA (hp := 500) (i := 5) (len := 2) rfl (Or.inr ⟨rfl, dL_act_500⟩) (by decide) ?_
      refine G_bipush (pc := 502) (v := -72) dL_act_502 (by first | rfl | decide) ?_
      refine G_iret (pc := 504) VZ.x dL_act_504 rfl ⟨by decide, by decide⟩ ?_
      have e := hx i9 _ _ h1 h2 h3
      rw [xc_IA] at e
      exact e
    · refine GX_catch [_, _] _ _ rfl (fun z hz => by rcases List.mem_cons.mp hz with rfl | hz; exact Or.inr ⟨by decide, _, cl_L_111, by decide⟩; rw [List.mem_singleton.mp hz]; exact Or.inr ⟨by decide, _, cl_L_113, by decide⟩) rfl (by decide) cl_L_115 ct_IS (hp := 505) (i := 5) (len := 2) rfl (Or.inr ⟨rfl, dL_act_505⟩) (by decide) ?_
      refine G_bipush (pc := 507) (v := -73) dL_act_507 (by first | rfl | decide) ?_
      refine G_iret (pc := 509) VZ.x dL_act_509 rfl ⟨by decide, by decide⟩ ?_
      have e := hx i9 _ _ h1 h2 h3
      rw [xc_IS] at e
      exact e
theorem act_21 {Γ : GTy} {Z : HS} {P : HS → FT → Prop} {F' : FT} {x y z b : Int32} {es : List String} {QV' : Option Value → HS → Prop} (hH : SH Z) (hop : Tt Γ M_X9_cueOf [.ref 800000, .int x] Z (QVo P Z F' b) (QXo P Z F' es)) (hes : ∀ E, E ∈ es → E = xIO ∨ E = xIA ∨ E = xIS) (hv : ∀ Z' : HS, F' 25 0 = nI 0 → P Z' F' → QV' (some (.int b)) Z') (hx : ∀ (i : Nat) (E : String) (Z' : HS), es[i]? = some E → F' 25 0 = nI (i + 1) → P Z' F' → QV' (some (.int (xc E))) Z') : Tw Γ M_L_act [.ref 800000, .int (nI 21), .int x, .int y, .int z] Z QV' noX := by
  refine Tw_of' rfl rfl ?_
  show G Γ M_L_act (rm M_L_act) (Vt Γ M_L_act QV' noX) (0, 0) 0 [some (.ref 800000), some (.int (nI 21)), some (.int x), some (.int y), some (.int z), none] [] Z
  refine G_iload_n (pc := 0) dL_act_0 rfl ?_
  refine G_if_neN (pc := 1) (tgt := 12) (by omega) dL_act_1 (by decide) (fun _ => ?_) (fun h => absurd h (by decide))
  refine G_iload_n (pc := 12) dL_act_12 rfl ?_
  refine G_iconst (pc := 13) (v := nI 1) dL_act_13 (by first | rfl | decide) ?_
  refine G_icmp_neN (pc := 14) (tgt := 26) (by omega) (by omega) dL_act_14 (by decide) (fun _ => ?_) (fun h => absurd h (by decide))
  refine G_iload_n (pc := 26) dL_act_26 rfl ?_
  refine G_iconst (pc := 27) (v := nI 2) dL_act_27 (by first | rfl | decide) ?_
  refine G_icmp_neN (pc := 28) (tgt := 39) (by omega) (by omega) dL_act_28 (by decide) (fun _ => ?_) (fun h => absurd h (by decide))
  refine G_iload_n (pc := 39) dL_act_39 rfl ?_
  refine G_iconst (pc := 40) (v := nI 3) dL_act_40 (by first | rfl | decide) ?_
  refine G_icmp_neN (pc := 41) (tgt := 52) (by omega) (by omega) dL_act_41 (by decide) (fun _ => ?_) (fun h => absurd h (by decide))
  refine G_iload_n (pc := 52) dL_act_52 rfl ?_
  refine G_iconst (pc := 53) (v := nI 4) dL_act_53 (by first | rfl | decide) ?_
  refine G_icmp_neN (pc := 54) (tgt := 65) (by omega) (by omega) dL_act_54 (by decide) (fun _ => ?_) (fun h => absurd h (by decide))
  refine G_iload_n (pc := 65) dL_act_65 rfl ?_
  refine G_iconst (pc := 66) (v := nI 5) dL_act_66 (by first | rfl | decide) ?_
  refine G_icmp_neN (pc := 67) (tgt := 78) (by omega) (by omega) dL_act_67 (by decide) (fun _ => ?_) (fun h => absurd h (by decide))
  refine G_iload_n (pc := 78) dL_act_78 rfl ?_
  refine G_bipush (pc := 79) (v := nI 6) dL_act_79 (by first | rfl | decide) ?_
  refine G_icmp_neN (pc := 81) (tgt := 96) (by omega) (by omega) dL_act_81 (by decide) (fun _ => ?_) (fun h => absurd h (by decide))
  refine G_iload_n (pc := 96) dL_act_96 rfl ?_
  refine G_bipush (pc := 97) (v := nI 7) dL_act_97 (by first | rfl | decide) ?_
  refine G_icmp_neN (pc := 99) (tgt := 114) (by omega) (by omega) dL_act_99 (by decide) (fun _ => ?_) (fun h => absurd h (by decide))
  refine G_iload_n (pc := 114) dL_act_114 rfl ?_
  refine G_bipush (pc := 115) (v := nI 8) dL_act_115 (by first | rfl | decide) ?_
  refine G_icmp_neN (pc := 117) (tgt := 129) (by omega) (by omega) dL_act_117 (by decide) (fun _ => ?_) (fun h => absurd h (by decide))
  refine G_iload_n (pc := 129) dL_act_129 rfl ?_
  refine G_bipush (pc := 130) (v := nI 9) dL_act_130 (by first | rfl | decide) ?_
  refine G_icmp_neN (pc := 132) (tgt := 146) (by omega) (by omega) dL_act_132 (by decide) (fun _ => ?_) (fun h => absurd h (by decide))
  refine G_iload_n (pc := 146) dL_act_146 rfl ?_
  refine G_bipush (pc := 147) (v := nI 10) dL_act_147 (by first | rfl | decide) ?_
  refine G_icmp_neN (pc := 149) (tgt := 161) (by omega) (by omega) dL_act_149 (by decide) (fun _ => ?_) (fun h => absurd h (by decide))
  refine G_iload_n (pc := 161) dL_act_161 rfl ?_
  refine G_bipush (pc := 162) (v := nI 11) dL_act_162 (by first | rfl | decide) ?_
  refine G_icmp_neN (pc := 164) (tgt := 175) (by omega) (by omega) dL_act_164 (by decide) (fun _ => ?_) (fun h => absurd h (by decide))
  refine G_iload_n (pc := 175) dL_act_175 rfl ?_
  refine G_bipush (pc := 176) (v := nI 12) dL_act_176 (by first | rfl | decide) ?_
  refine G_icmp_neN (pc := 178) (tgt := 189) (by omega) (by omega) dL_act_178 (by decide) (fun _ => ?_) (fun h => absurd h (by decide))
  refine G_iload_n (pc := 189) dL_act_189 rfl ?_
  refine G_bipush (pc := 190) (v := nI 13) dL_act_190 (by first | rfl | decide) ?_
  refine G_icmp_neN (pc := 192) (tgt := 211) (by omega) (by omega) dL_act_192 (by decide) (fun _ => ?_) (fun h => absurd h (by decide))
  refine G_iload_n (pc := 211) dL_act_211 rfl ?_
  refine G_bipush (pc := 212) (v := nI 14) dL_act_212 (by first | rfl | decide) ?_
  refine G_icmp_neN (pc := 214) (tgt := 225) (by omega) (by omega) dL_act_214 (by decide) (fun _ => ?_) (fun h => absurd h (by decide))
  refine G_iload_n (pc := 225) dL_act_225 rfl ?_
  refine G_bipush (pc := 226) (v := nI 15) dL_act_226 (by first | rfl | decide) ?_
  refine G_icmp_neN (pc := 228) (tgt := 239) (by omega) (by omega) dL_act_228 (by decide) (fun _ => ?_) (fun h => absurd h (by decide))
  refine G_iload_n (pc := 239) dL_act_239 rfl ?_
  refine G_bipush (pc := 240) (v := nI 16) dL_act_240 (by first | rfl | decide) ?_
  refine G_icmp_neN (pc := 242) (tgt := 253) (by omega) (by omega) dL_act_242 (by decide) (fun _ => ?_) (fun h => absurd h (by decide))
  refine G_iload_n (pc := 253) dL_act_253 rfl ?_
  refine G_bipush (pc := 254) (v := nI 17) dL_act_254 (by first | rfl | decide) ?_
  refine G_icmp_neN (pc := 256) (tgt := 267) (by omega) (by omega) dL_act_256 (by decide) (fun _ => ?_) (fun h => absurd h (by decide))
  refine G_iload_n (pc := 267) dL_act_267 rfl ?_
  refine G_bipush (pc := 268) (v := nI 18) dL_act_268 (by first | rfl | decide) ?_
  refine G_icmp_neN (pc := 270) (tgt := 281) (by omega) (by omega) dL_act_270 (by decide) (fun _ => ?_) (fun h => absurd h (by decide))
  refine G_iload_n (pc := 281) dL_act_281 rfl ?_
  refine G_bipush (pc := 282) (v := nI 19) dL_act_282 (by first | rfl | decide) ?_
  refine G_icmp_neN (pc := 284) (tgt := 295) (by omega) (by omega) dL_act_284 (by decide) (fun _ => ?_) (fun h => absurd h (by decide))
  refine G_iload_n (pc := 295) dL_act_295 rfl ?_
  refine G_bipush (pc := 296) (v := nI 20) dL_act_296 (by first | rfl | decide) ?_
  refine G_icmp_neN (pc := 298) (tgt := 309) (by omega) (by omega) dL_act_298 (by decide) (fun _ => ?_) (fun h => absurd h (by decide))
  refine G_iload_n (pc := 309) dL_act_309 rfl ?_
  refine G_bipush (pc := 310) (v := nI 21) dL_act_310 (by first | rfl | decide) ?_
  refine G_icmp_neN (pc := 312) (tgt := 323) (by omega) (by omega) dL_act_312 (by decide) (fun h => absurd h (by decide)) (fun _ => ?_)
  refine G_aload_n (pc := 315) dL_act_315 rfl ?_
  refine G_iload_n (pc := 316) dL_act_316 rfl ?_
  refine K_V1 (pc := 317) (k' := (1, 6)) mok_X9_cueOf lk_L_74 (sh_k hH) rfl rfl rfl (aok0 rfl) dL_act_317 (hop) rfl (fun v1 Y1 q1 => ?_) (fun E1 Y1 q1 => ?_)
  · obtain ⟨e1, e2, e3⟩ := q1; subst e1
    show G _ _ _ _ _ _ _ (_ :: _) _
    refine G_goto (pc := 320) (tgt := 494) dL_act_320 (by decide) ?_
    refine G_iret (pc := 494) VZ.x dL_act_494 rfl ⟨by decide, by decide⟩ ?_
    exact hv _ e2 e3
  · obtain ⟨i9, h1, h2, h3⟩ := q1
    rcases hes E1 (List.mem_of_getElem? h1) with rfl | rfl | rfl
    · refine GX_catch [] _ _ rfl (fun z hz => absurd hz List.not_mem_nil) rfl (by decide) cl_L_111 ct_IO (hp := 495) (i := 5) (len := 2) rfl (Or.inr ⟨rfl, dL_act_495⟩) (by decide) ?_
      refine G_bipush (pc := 497) (v := -71) dL_act_497 (by first | rfl | decide) ?_
      refine G_iret (pc := 499) VZ.x dL_act_499 rfl ⟨by decide, by decide⟩ ?_
      have e := hx i9 _ _ h1 h2 h3
      rw [xc_IO] at e
      exact e
    · refine GX_catch [_] _ _ rfl (fun z hz => by rw [List.mem_singleton.mp hz]; exact Or.inr ⟨by decide, _, cl_L_111, by decide⟩) rfl (by decide) cl_L_113 ct_IA (hp := 500) (i := 5) (len := 2) rfl (Or.inr ⟨rfl, dL_act_500⟩) (by decide) ?_
      refine G_bipush (pc := 502) (v := -72) dL_act_502 (by first | rfl | decide) ?_
      refine G_iret (pc := 504) VZ.x dL_act_504 rfl ⟨by decide, by decide⟩ ?_
      have e := hx i9 _ _ h1 h2 h3
      rw [xc_IA] at e
      exact e
    · refine GX_catch [_, _] _ _ rfl (fun z hz => by rcases List.mem_cons.mp hz with rfl | hz; exact Or.inr ⟨by decide, _, cl_L_111, by decide⟩; rw [List.mem_singleton.mp hz]; exact Or.inr ⟨by decide, _, cl_L_113, by decide⟩) rfl (by decide) cl_L_115 ct_IS (hp := 505) (i := 5) (len := 2) rfl (Or.inr ⟨rfl, dL_act_505⟩) (by decide) ?_
      refine G_bipush (pc := 507) (v := -73) dL_act_507 (by first | rfl | decide) ?_
      refine G_iret (pc := 509) VZ.x dL_act_509 rfl ⟨by decide, by decide⟩ ?_
      have e := hx i9 _ _ h1 h2 h3
      rw [xc_IS] at e
      exact e
theorem act_22 {Γ : GTy} {Z : HS} {P : HS → FT → Prop} {F' : FT} {x y z b : Int32} {es : List String} {QV' : Option Value → HS → Prop} (hH : SH Z) (hop : Tt Γ M_X9_state [.ref 800000, .int x] Z (QVo P Z F' b) (QXo P Z F' es)) (hes : ∀ E, E ∈ es → E = xIO ∨ E = xIA ∨ E = xIS) (hv : ∀ Z' : HS, F' 25 0 = nI 0 → P Z' F' → QV' (some (.int b)) Z') (hx : ∀ (i : Nat) (E : String) (Z' : HS), es[i]? = some E → F' 25 0 = nI (i + 1) → P Z' F' → QV' (some (.int (xc E))) Z') : Tw Γ M_L_act [.ref 800000, .int (nI 22), .int x, .int y, .int z] Z QV' noX := by
  refine Tw_of' rfl rfl ?_
  show G Γ M_L_act (rm M_L_act) (Vt Γ M_L_act QV' noX) (0, 0) 0 [some (.ref 800000), some (.int (nI 22)), some (.int x), some (.int y), some (.int z), none] [] Z
  refine G_iload_n (pc := 0) dL_act_0 rfl ?_
  refine G_if_neN (pc := 1) (tgt := 12) (by omega) dL_act_1 (by decide) (fun _ => ?_) (fun h => absurd h (by decide))
  refine G_iload_n (pc := 12) dL_act_12 rfl ?_
  refine G_iconst (pc := 13) (v := nI 1) dL_act_13 (by first | rfl | decide) ?_
  refine G_icmp_neN (pc := 14) (tgt := 26) (by omega) (by omega) dL_act_14 (by decide) (fun _ => ?_) (fun h => absurd h (by decide))
  refine G_iload_n (pc := 26) dL_act_26 rfl ?_
  refine G_iconst (pc := 27) (v := nI 2) dL_act_27 (by first | rfl | decide) ?_
  refine G_icmp_neN (pc := 28) (tgt := 39) (by omega) (by omega) dL_act_28 (by decide) (fun _ => ?_) (fun h => absurd h (by decide))
  refine G_iload_n (pc := 39) dL_act_39 rfl ?_
  refine G_iconst (pc := 40) (v := nI 3) dL_act_40 (by first | rfl | decide) ?_
  refine G_icmp_neN (pc := 41) (tgt := 52) (by omega) (by omega) dL_act_41 (by decide) (fun _ => ?_) (fun h => absurd h (by decide))
  refine G_iload_n (pc := 52) dL_act_52 rfl ?_
  refine G_iconst (pc := 53) (v := nI 4) dL_act_53 (by first | rfl | decide) ?_
  refine G_icmp_neN (pc := 54) (tgt := 65) (by omega) (by omega) dL_act_54 (by decide) (fun _ => ?_) (fun h => absurd h (by decide))
  refine G_iload_n (pc := 65) dL_act_65 rfl ?_
  refine G_iconst (pc := 66) (v := nI 5) dL_act_66 (by first | rfl | decide) ?_
  refine G_icmp_neN (pc := 67) (tgt := 78) (by omega) (by omega) dL_act_67 (by decide) (fun _ => ?_) (fun h => absurd h (by decide))
  refine G_iload_n (pc := 78) dL_act_78 rfl ?_
  refine G_bipush (pc := 79) (v := nI 6) dL_act_79 (by first | rfl | decide) ?_
  refine G_icmp_neN (pc := 81) (tgt := 96) (by omega) (by omega) dL_act_81 (by decide) (fun _ => ?_) (fun h => absurd h (by decide))
  refine G_iload_n (pc := 96) dL_act_96 rfl ?_
  refine G_bipush (pc := 97) (v := nI 7) dL_act_97 (by first | rfl | decide) ?_
  refine G_icmp_neN (pc := 99) (tgt := 114) (by omega) (by omega) dL_act_99 (by decide) (fun _ => ?_) (fun h => absurd h (by decide))
  refine G_iload_n (pc := 114) dL_act_114 rfl ?_
  refine G_bipush (pc := 115) (v := nI 8) dL_act_115 (by first | rfl | decide) ?_
  refine G_icmp_neN (pc := 117) (tgt := 129) (by omega) (by omega) dL_act_117 (by decide) (fun _ => ?_) (fun h => absurd h (by decide))
  refine G_iload_n (pc := 129) dL_act_129 rfl ?_
  refine G_bipush (pc := 130) (v := nI 9) dL_act_130 (by first | rfl | decide) ?_
  refine G_icmp_neN (pc := 132) (tgt := 146) (by omega) (by omega) dL_act_132 (by decide) (fun _ => ?_) (fun h => absurd h (by decide))
  refine G_iload_n (pc := 146) dL_act_146 rfl ?_
  refine G_bipush (pc := 147) (v := nI 10) dL_act_147 (by first | rfl | decide) ?_
  refine G_icmp_neN (pc := 149) (tgt := 161) (by omega) (by omega) dL_act_149 (by decide) (fun _ => ?_) (fun h => absurd h (by decide))
  refine G_iload_n (pc := 161) dL_act_161 rfl ?_
  refine G_bipush (pc := 162) (v := nI 11) dL_act_162 (by first | rfl | decide) ?_
  refine G_icmp_neN (pc := 164) (tgt := 175) (by omega) (by omega) dL_act_164 (by decide) (fun _ => ?_) (fun h => absurd h (by decide))
  refine G_iload_n (pc := 175) dL_act_175 rfl ?_
  refine G_bipush (pc := 176) (v := nI 12) dL_act_176 (by first | rfl | decide) ?_
  refine G_icmp_neN (pc := 178) (tgt := 189) (by omega) (by omega) dL_act_178 (by decide) (fun _ => ?_) (fun h => absurd h (by decide))
  refine G_iload_n (pc := 189) dL_act_189 rfl ?_
  refine G_bipush (pc := 190) (v := nI 13) dL_act_190 (by first | rfl | decide) ?_
  refine G_icmp_neN (pc := 192) (tgt := 211) (by omega) (by omega) dL_act_192 (by decide) (fun _ => ?_) (fun h => absurd h (by decide))
  refine G_iload_n (pc := 211) dL_act_211 rfl ?_
  refine G_bipush (pc := 212) (v := nI 14) dL_act_212 (by first | rfl | decide) ?_
  refine G_icmp_neN (pc := 214) (tgt := 225) (by omega) (by omega) dL_act_214 (by decide) (fun _ => ?_) (fun h => absurd h (by decide))
  refine G_iload_n (pc := 225) dL_act_225 rfl ?_
  refine G_bipush (pc := 226) (v := nI 15) dL_act_226 (by first | rfl | decide) ?_
  refine G_icmp_neN (pc := 228) (tgt := 239) (by omega) (by omega) dL_act_228 (by decide) (fun _ => ?_) (fun h => absurd h (by decide))
  refine G_iload_n (pc := 239) dL_act_239 rfl ?_
  refine G_bipush (pc := 240) (v := nI 16) dL_act_240 (by first | rfl | decide) ?_
  refine G_icmp_neN (pc := 242) (tgt := 253) (by omega) (by omega) dL_act_242 (by decide) (fun _ => ?_) (fun h => absurd h (by decide))
  refine G_iload_n (pc := 253) dL_act_253 rfl ?_
  refine G_bipush (pc := 254) (v := nI 17) dL_act_254 (by first | rfl | decide) ?_
  refine G_icmp_neN (pc := 256) (tgt := 267) (by omega) (by omega) dL_act_256 (by decide) (fun _ => ?_) (fun h => absurd h (by decide))
  refine G_iload_n (pc := 267) dL_act_267 rfl ?_
  refine G_bipush (pc := 268) (v := nI 18) dL_act_268 (by first | rfl | decide) ?_
  refine G_icmp_neN (pc := 270) (tgt := 281) (by omega) (by omega) dL_act_270 (by decide) (fun _ => ?_) (fun h => absurd h (by decide))
  refine G_iload_n (pc := 281) dL_act_281 rfl ?_
  refine G_bipush (pc := 282) (v := nI 19) dL_act_282 (by first | rfl | decide) ?_
  refine G_icmp_neN (pc := 284) (tgt := 295) (by omega) (by omega) dL_act_284 (by decide) (fun _ => ?_) (fun h => absurd h (by decide))
  refine G_iload_n (pc := 295) dL_act_295 rfl ?_
  refine G_bipush (pc := 296) (v := nI 20) dL_act_296 (by first | rfl | decide) ?_
  refine G_icmp_neN (pc := 298) (tgt := 309) (by omega) (by omega) dL_act_298 (by decide) (fun _ => ?_) (fun h => absurd h (by decide))
  refine G_iload_n (pc := 309) dL_act_309 rfl ?_
  refine G_bipush (pc := 310) (v := nI 21) dL_act_310 (by first | rfl | decide) ?_
  refine G_icmp_neN (pc := 312) (tgt := 323) (by omega) (by omega) dL_act_312 (by decide) (fun _ => ?_) (fun h => absurd h (by decide))
  refine G_iload_n (pc := 323) dL_act_323 rfl ?_
  refine G_bipush (pc := 324) (v := nI 22) dL_act_324 (by first | rfl | decide) ?_
  refine G_icmp_neN (pc := 326) (tgt := 337) (by omega) (by omega) dL_act_326 (by decide) (fun h => absurd h (by decide)) (fun _ => ?_)
  refine G_aload_n (pc := 329) dL_act_329 rfl ?_
  refine G_iload_n (pc := 330) dL_act_330 rfl ?_
  refine K_V1 (pc := 331) (k' := (1, 6)) mok_X9_state lk_L_77 (sh_k hH) rfl rfl rfl (aok0 rfl) dL_act_331 (hop) rfl (fun v1 Y1 q1 => ?_) (fun E1 Y1 q1 => ?_)
  · obtain ⟨e1, e2, e3⟩ := q1; subst e1
    show G _ _ _ _ _ _ _ (_ :: _) _
    refine G_goto (pc := 334) (tgt := 494) dL_act_334 (by decide) ?_
    refine G_iret (pc := 494) VZ.x dL_act_494 rfl ⟨by decide, by decide⟩ ?_
    exact hv _ e2 e3
  · obtain ⟨i9, h1, h2, h3⟩ := q1
    rcases hes E1 (List.mem_of_getElem? h1) with rfl | rfl | rfl
    · refine GX_catch [] _ _ rfl (fun z hz => absurd hz List.not_mem_nil) rfl (by decide) cl_L_111 ct_IO (hp := 495) (i := 5) (len := 2) rfl (Or.inr ⟨rfl, dL_act_495⟩) (by decide) ?_
      refine G_bipush (pc := 497) (v := -71) dL_act_497 (by first | rfl | decide) ?_
      refine G_iret (pc := 499) VZ.x dL_act_499 rfl ⟨by decide, by decide⟩ ?_
      have e := hx i9 _ _ h1 h2 h3
      rw [xc_IO] at e
      exact e
    · refine GX_catch [_] _ _ rfl (fun z hz => by rw [List.mem_singleton.mp hz]; exact Or.inr ⟨by decide, _, cl_L_111, by decide⟩) rfl (by decide) cl_L_113 ct_IA (hp := 500) (i := 5) (len := 2) rfl (Or.inr ⟨rfl, dL_act_500⟩) (by decide) ?_
      refine G_bipush (pc := 502) (v := -72) dL_act_502 (by first | rfl | decide) ?_
      refine G_iret (pc := 504) VZ.x dL_act_504 rfl ⟨by decide, by decide⟩ ?_
      have e := hx i9 _ _ h1 h2 h3
      rw [xc_IA] at e
      exact e
    · refine GX_catch [_, _] _ _ rfl (fun z hz => by rcases List.mem_cons.mp hz with rfl | hz; exact Or.inr ⟨by decide, _, cl_L_111, by decide⟩; rw [List.mem_singleton.mp hz]; exact Or.inr ⟨by decide, _, cl_L_113, by decide⟩) rfl (by decide) cl_L_115 ct_IS (hp := 505) (i := 5) (len := 2) rfl (Or.inr ⟨rfl, dL_act_505⟩) (by decide) ?_
      refine G_bipush (pc := 507) (v := -73) dL_act_507 (by first | rfl | decide) ?_
      refine G_iret (pc := 509) VZ.x dL_act_509 rfl ⟨by decide, by decide⟩ ?_
      have e := hx i9 _ _ h1 h2 h3
      rw [xc_IS] at e
      exact e
theorem act_23 {Γ : GTy} {Z : HS} {P : HS → FT → Prop} {F' : FT} {x y z b : Int32} {es : List String} {QV' : Option Value → HS → Prop} (hH : SH Z) (hop : Tt Γ M_X9_ballOn [.ref 800000, .int x] Z (QVo P Z F' b) (QXo P Z F' es)) (hes : ∀ E, E ∈ es → E = xIO ∨ E = xIA ∨ E = xIS) (hv : ∀ Z' : HS, F' 25 0 = nI 0 → P Z' F' → QV' (some (.int b)) Z') (hx : ∀ (i : Nat) (E : String) (Z' : HS), es[i]? = some E → F' 25 0 = nI (i + 1) → P Z' F' → QV' (some (.int (xc E))) Z') : Tw Γ M_L_act [.ref 800000, .int (nI 23), .int x, .int y, .int z] Z QV' noX := by
  refine Tw_of' rfl rfl ?_
  show G Γ M_L_act (rm M_L_act) (Vt Γ M_L_act QV' noX) (0, 0) 0 [some (.ref 800000), some (.int (nI 23)), some (.int x), some (.int y), some (.int z), none] [] Z
  refine G_iload_n (pc := 0) dL_act_0 rfl ?_
  refine G_if_neN (pc := 1) (tgt := 12) (by omega) dL_act_1 (by decide) (fun _ => ?_) (fun h => absurd h (by decide))
  refine G_iload_n (pc := 12) dL_act_12 rfl ?_
  refine G_iconst (pc := 13) (v := nI 1) dL_act_13 (by first | rfl | decide) ?_
  refine G_icmp_neN (pc := 14) (tgt := 26) (by omega) (by omega) dL_act_14 (by decide) (fun _ => ?_) (fun h => absurd h (by decide))
  refine G_iload_n (pc := 26) dL_act_26 rfl ?_
  refine G_iconst (pc := 27) (v := nI 2) dL_act_27 (by first | rfl | decide) ?_
  refine G_icmp_neN (pc := 28) (tgt := 39) (by omega) (by omega) dL_act_28 (by decide) (fun _ => ?_) (fun h => absurd h (by decide))
  refine G_iload_n (pc := 39) dL_act_39 rfl ?_
  refine G_iconst (pc := 40) (v := nI 3) dL_act_40 (by first | rfl | decide) ?_
  refine G_icmp_neN (pc := 41) (tgt := 52) (by omega) (by omega) dL_act_41 (by decide) (fun _ => ?_) (fun h => absurd h (by decide))
  refine G_iload_n (pc := 52) dL_act_52 rfl ?_
  refine G_iconst (pc := 53) (v := nI 4) dL_act_53 (by first | rfl | decide) ?_
  refine G_icmp_neN (pc := 54) (tgt := 65) (by omega) (by omega) dL_act_54 (by decide) (fun _ => ?_) (fun h => absurd h (by decide))
  refine G_iload_n (pc := 65) dL_act_65 rfl ?_
  refine G_iconst (pc := 66) (v := nI 5) dL_act_66 (by first | rfl | decide) ?_
  refine G_icmp_neN (pc := 67) (tgt := 78) (by omega) (by omega) dL_act_67 (by decide) (fun _ => ?_) (fun h => absurd h (by decide))
  refine G_iload_n (pc := 78) dL_act_78 rfl ?_
  refine G_bipush (pc := 79) (v := nI 6) dL_act_79 (by first | rfl | decide) ?_
  refine G_icmp_neN (pc := 81) (tgt := 96) (by omega) (by omega) dL_act_81 (by decide) (fun _ => ?_) (fun h => absurd h (by decide))
  refine G_iload_n (pc := 96) dL_act_96 rfl ?_
  refine G_bipush (pc := 97) (v := nI 7) dL_act_97 (by first | rfl | decide) ?_
  refine G_icmp_neN (pc := 99) (tgt := 114) (by omega) (by omega) dL_act_99 (by decide) (fun _ => ?_) (fun h => absurd h (by decide))
  refine G_iload_n (pc := 114) dL_act_114 rfl ?_
  refine G_bipush (pc := 115) (v := nI 8) dL_act_115 (by first | rfl | decide) ?_
  refine G_icmp_neN (pc := 117) (tgt := 129) (by omega) (by omega) dL_act_117 (by decide) (fun _ => ?_) (fun h => absurd h (by decide))
  refine G_iload_n (pc := 129) dL_act_129 rfl ?_
  refine G_bipush (pc := 130) (v := nI 9) dL_act_130 (by first | rfl | decide) ?_
  refine G_icmp_neN (pc := 132) (tgt := 146) (by omega) (by omega) dL_act_132 (by decide) (fun _ => ?_) (fun h => absurd h (by decide))
  refine G_iload_n (pc := 146) dL_act_146 rfl ?_
  refine G_bipush (pc := 147) (v := nI 10) dL_act_147 (by first | rfl | decide) ?_
  refine G_icmp_neN (pc := 149) (tgt := 161) (by omega) (by omega) dL_act_149 (by decide) (fun _ => ?_) (fun h => absurd h (by decide))
  refine G_iload_n (pc := 161) dL_act_161 rfl ?_
  refine G_bipush (pc := 162) (v := nI 11) dL_act_162 (by first | rfl | decide) ?_
  refine G_icmp_neN (pc := 164) (tgt := 175) (by omega) (by omega) dL_act_164 (by decide) (fun _ => ?_) (fun h => absurd h (by decide))
  refine G_iload_n (pc := 175) dL_act_175 rfl ?_
  refine G_bipush (pc := 176) (v := nI 12) dL_act_176 (by first | rfl | decide) ?_
  refine G_icmp_neN (pc := 178) (tgt := 189) (by omega) (by omega) dL_act_178 (by decide) (fun _ => ?_) (fun h => absurd h (by decide))
  refine G_iload_n (pc := 189) dL_act_189 rfl ?_
  refine G_bipush (pc := 190) (v := nI 13) dL_act_190 (by first | rfl | decide) ?_
  refine G_icmp_neN (pc := 192) (tgt := 211) (by omega) (by omega) dL_act_192 (by decide) (fun _ => ?_) (fun h => absurd h (by decide))
  refine G_iload_n (pc := 211) dL_act_211 rfl ?_
  refine G_bipush (pc := 212) (v := nI 14) dL_act_212 (by first | rfl | decide) ?_
  refine G_icmp_neN (pc := 214) (tgt := 225) (by omega) (by omega) dL_act_214 (by decide) (fun _ => ?_) (fun h => absurd h (by decide))
  refine G_iload_n (pc := 225) dL_act_225 rfl ?_
  refine G_bipush (pc := 226) (v := nI 15) dL_act_226 (by first | rfl | decide) ?_
  refine G_icmp_neN (pc := 228) (tgt := 239) (by omega) (by omega) dL_act_228 (by decide) (fun _ => ?_) (fun h => absurd h (by decide))
  refine G_iload_n (pc := 239) dL_act_239 rfl ?_
  refine G_bipush (pc := 240) (v := nI 16) dL_act_240 (by first | rfl | decide) ?_
  refine G_icmp_neN (pc := 242) (tgt := 253) (by omega) (by omega) dL_act_242 (by decide) (fun _ => ?_) (fun h => absurd h (by decide))
  refine G_iload_n (pc := 253) dL_act_253 rfl ?_
  refine G_bipush (pc := 254) (v := nI 17) dL_act_254 (by first | rfl | decide) ?_
  refine G_icmp_neN (pc := 256) (tgt := 267) (by omega) (by omega) dL_act_256 (by decide) (fun _ => ?_) (fun h => absurd h (by decide))
  refine G_iload_n (pc := 267) dL_act_267 rfl ?_
  refine G_bipush (pc := 268) (v := nI 18) dL_act_268 (by first | rfl | decide) ?_
  refine G_icmp_neN (pc := 270) (tgt := 281) (by omega) (by omega) dL_act_270 (by decide) (fun _ => ?_) (fun h => absurd h (by decide))
  refine G_iload_n (pc := 281) dL_act_281 rfl ?_
  refine G_bipush (pc := 282) (v := nI 19) dL_act_282 (by first | rfl | decide) ?_
  refine G_icmp_neN (pc := 284) (tgt := 295) (by omega) (by omega) dL_act_284 (by decide) (fun _ => ?_) (fun h => absurd h (by decide))
  refine G_iload_n (pc := 295) dL_act_295 rfl ?_
  refine G_bipush (pc := 296) (v := nI 20) dL_act_296 (by first | rfl | decide) ?_
  refine G_icmp_neN (pc := 298) (tgt := 309) (by omega) (by omega) dL_act_298 (by decide) (fun _ => ?_) (fun h => absurd h (by decide))
  refine G_iload_n (pc := 309) dL_act_309 rfl ?_
  refine G_bipush (pc := 310) (v := nI 21) dL_act_310 (by first | rfl | decide) ?_
  refine G_icmp_neN (pc := 312) (tgt := 323) (by omega) (by omega) dL_act_312 (by decide) (fun _ => ?_) (fun h => absurd h (by decide))
  refine G_iload_n (pc := 323) dL_act_323 rfl ?_
  refine G_bipush (pc := 324) (v := nI 22) dL_act_324 (by first | rfl | decide) ?_
  refine G_icmp_neN (pc := 326) (tgt := 337) (by omega) (by omega) dL_act_326 (by decide) (fun _ => ?_) (fun h => absurd h (by decide))
  refine G_iload_n (pc := 337) dL_act_337 rfl ?_
  refine G_bipush (pc := 338) (v := nI 23) dL_act_338 (by first | rfl | decide) ?_
  refine G_icmp_neN (pc := 340) (tgt := 351) (by omega) (by omega) dL_act_340 (by decide) (fun h => absurd h (by decide)) (fun _ => ?_)
  refine G_aload_n (pc := 343) dL_act_343 rfl ?_
  refine G_iload_n (pc := 344) dL_act_344 rfl ?_
  refine K_V1 (pc := 345) (k' := (1, 6)) mok_X9_ballOn lk_L_80 (sh_k hH) rfl rfl rfl (aok0 rfl) dL_act_345 (hop) rfl (fun v1 Y1 q1 => ?_) (fun E1 Y1 q1 => ?_)
  · obtain ⟨e1, e2, e3⟩ := q1; subst e1
    show G _ _ _ _ _ _ _ (_ :: _) _
    refine G_goto (pc := 348) (tgt := 494) dL_act_348 (by decide) ?_
    refine G_iret (pc := 494) VZ.x dL_act_494 rfl ⟨by decide, by decide⟩ ?_
    exact hv _ e2 e3
  · obtain ⟨i9, h1, h2, h3⟩ := q1
    rcases hes E1 (List.mem_of_getElem? h1) with rfl | rfl | rfl
    · refine GX_catch [] _ _ rfl (fun z hz => absurd hz List.not_mem_nil) rfl (by decide) cl_L_111 ct_IO (hp := 495) (i := 5) (len := 2) rfl (Or.inr ⟨rfl, dL_act_495⟩) (by decide) ?_
      refine G_bipush (pc := 497) (v := -71) dL_act_497 (by first | rfl | decide) ?_
      refine G_iret (pc := 499) VZ.x dL_act_499 rfl ⟨by decide, by decide⟩ ?_
      have e := hx i9 _ _ h1 h2 h3
      rw [xc_IO] at e
      exact e
    · refine GX_catch [_] _ _ rfl (fun z hz => by rw [List.mem_singleton.mp hz]; exact Or.inr ⟨by decide, _, cl_L_111, by decide⟩) rfl (by decide) cl_L_113 ct_IA (hp := 500) (i := 5) (len := 2) rfl (Or.inr ⟨rfl, dL_act_500⟩) (by decide) ?_
      refine G_bipush (pc := 502) (v := -72) dL_act_502 (by first | rfl | decide) ?_
      refine G_iret (pc := 504) VZ.x dL_act_504 rfl ⟨by decide, by decide⟩ ?_
      have e := hx i9 _ _ h1 h2 h3
      rw [xc_IA] at e
      exact e
    · refine GX_catch [_, _] _ _ rfl (fun z hz => by rcases List.mem_cons.mp hz with rfl | hz; exact Or.inr ⟨by decide, _, cl_L_111, by decide⟩; rw [List.mem_singleton.mp hz]; exact Or.inr ⟨by decide, _, cl_L_113, by decide⟩) rfl (by decide) cl_L_115 ct_IS (hp := 505) (i := 5) (len := 2) rfl (Or.inr ⟨rfl, dL_act_505⟩) (by decide) ?_
      refine G_bipush (pc := 507) (v := -73) dL_act_507 (by first | rfl | decide) ?_
      refine G_iret (pc := 509) VZ.x dL_act_509 rfl ⟨by decide, by decide⟩ ?_
      have e := hx i9 _ _ h1 h2 h3
      rw [xc_IS] at e
      exact e
theorem act_24 {Γ : GTy} {Z : HS} {P : HS → FT → Prop} {F' : FT} {x y z b : Int32} {es : List String} {QV' : Option Value → HS → Prop} (hH : SH Z) (hop : Tt Γ M_X9_isFree [.ref 800000, .int x] Z (QVo P Z F' b) (QXo P Z F' es)) (hes : ∀ E, E ∈ es → E = xIO ∨ E = xIA ∨ E = xIS) (hv : ∀ Z' : HS, F' 25 0 = nI 0 → P Z' F' → QV' (some (.int (if b = 0 then nI 0 else nI 1))) Z') (hx : ∀ (i : Nat) (E : String) (Z' : HS), es[i]? = some E → F' 25 0 = nI (i + 1) → P Z' F' → QV' (some (.int (xc E))) Z') : Tw Γ M_L_act [.ref 800000, .int (nI 24), .int x, .int y, .int z] Z QV' noX := by
  refine Tw_of' rfl rfl ?_
  show G Γ M_L_act (rm M_L_act) (Vt Γ M_L_act QV' noX) (0, 0) 0 [some (.ref 800000), some (.int (nI 24)), some (.int x), some (.int y), some (.int z), none] [] Z
  refine G_iload_n (pc := 0) dL_act_0 rfl ?_
  refine G_if_neN (pc := 1) (tgt := 12) (by omega) dL_act_1 (by decide) (fun _ => ?_) (fun h => absurd h (by decide))
  refine G_iload_n (pc := 12) dL_act_12 rfl ?_
  refine G_iconst (pc := 13) (v := nI 1) dL_act_13 (by first | rfl | decide) ?_
  refine G_icmp_neN (pc := 14) (tgt := 26) (by omega) (by omega) dL_act_14 (by decide) (fun _ => ?_) (fun h => absurd h (by decide))
  refine G_iload_n (pc := 26) dL_act_26 rfl ?_
  refine G_iconst (pc := 27) (v := nI 2) dL_act_27 (by first | rfl | decide) ?_
  refine G_icmp_neN (pc := 28) (tgt := 39) (by omega) (by omega) dL_act_28 (by decide) (fun _ => ?_) (fun h => absurd h (by decide))
  refine G_iload_n (pc := 39) dL_act_39 rfl ?_
  refine G_iconst (pc := 40) (v := nI 3) dL_act_40 (by first | rfl | decide) ?_
  refine G_icmp_neN (pc := 41) (tgt := 52) (by omega) (by omega) dL_act_41 (by decide) (fun _ => ?_) (fun h => absurd h (by decide))
  refine G_iload_n (pc := 52) dL_act_52 rfl ?_
  refine G_iconst (pc := 53) (v := nI 4) dL_act_53 (by first | rfl | decide) ?_
  refine G_icmp_neN (pc := 54) (tgt := 65) (by omega) (by omega) dL_act_54 (by decide) (fun _ => ?_) (fun h => absurd h (by decide))
  refine G_iload_n (pc := 65) dL_act_65 rfl ?_
  refine G_iconst (pc := 66) (v := nI 5) dL_act_66 (by first | rfl | decide) ?_
  refine G_icmp_neN (pc := 67) (tgt := 78) (by omega) (by omega) dL_act_67 (by decide) (fun _ => ?_) (fun h => absurd h (by decide))
  refine G_iload_n (pc := 78) dL_act_78 rfl ?_
  refine G_bipush (pc := 79) (v := nI 6) dL_act_79 (by first | rfl | decide) ?_
  refine G_icmp_neN (pc := 81) (tgt := 96) (by omega) (by omega) dL_act_81 (by decide) (fun _ => ?_) (fun h => absurd h (by decide))
  refine G_iload_n (pc := 96) dL_act_96 rfl ?_
  refine G_bipush (pc := 97) (v := nI 7) dL_act_97 (by first | rfl | decide) ?_
  refine G_icmp_neN (pc := 99) (tgt := 114) (by omega) (by omega) dL_act_99 (by decide) (fun _ => ?_) (fun h => absurd h (by decide))
  refine G_iload_n (pc := 114) dL_act_114 rfl ?_
  refine G_bipush (pc := 115) (v := nI 8) dL_act_115 (by first | rfl | decide) ?_
  refine G_icmp_neN (pc := 117) (tgt := 129) (by omega) (by omega) dL_act_117 (by decide) (fun _ => ?_) (fun h => absurd h (by decide))
  refine G_iload_n (pc := 129) dL_act_129 rfl ?_
  refine G_bipush (pc := 130) (v := nI 9) dL_act_130 (by first | rfl | decide) ?_
  refine G_icmp_neN (pc := 132) (tgt := 146) (by omega) (by omega) dL_act_132 (by decide) (fun _ => ?_) (fun h => absurd h (by decide))
  refine G_iload_n (pc := 146) dL_act_146 rfl ?_
  refine G_bipush (pc := 147) (v := nI 10) dL_act_147 (by first | rfl | decide) ?_
  refine G_icmp_neN (pc := 149) (tgt := 161) (by omega) (by omega) dL_act_149 (by decide) (fun _ => ?_) (fun h => absurd h (by decide))
  refine G_iload_n (pc := 161) dL_act_161 rfl ?_
  refine G_bipush (pc := 162) (v := nI 11) dL_act_162 (by first | rfl | decide) ?_
  refine G_icmp_neN (pc := 164) (tgt := 175) (by omega) (by omega) dL_act_164 (by decide) (fun _ => ?_) (fun h => absurd h (by decide))
  refine G_iload_n (pc := 175) dL_act_175 rfl ?_
  refine G_bipush (pc := 176) (v := nI 12) dL_act_176 (by first | rfl | decide) ?_
  refine G_icmp_neN (pc := 178) (tgt := 189) (by omega) (by omega) dL_act_178 (by decide) (fun _ => ?_) (fun h => absurd h (by decide))
  refine G_iload_n (pc := 189) dL_act_189 rfl ?_
  refine G_bipush (pc := 190) (v := nI 13) dL_act_190 (by first | rfl | decide) ?_
  refine G_icmp_neN (pc := 192) (tgt := 211) (by omega) (by omega) dL_act_192 (by decide) (fun _ => ?_) (fun h => absurd h (by decide))
  refine G_iload_n (pc := 211) dL_act_211 rfl ?_
  refine G_bipush (pc := 212) (v := nI 14) dL_act_212 (by first | rfl | decide) ?_
  refine G_icmp_neN (pc := 214) (tgt := 225) (by omega) (by omega) dL_act_214 (by decide) (fun _ => ?_) (fun h => absurd h (by decide))
  refine G_iload_n (pc := 225) dL_act_225 rfl ?_
  refine G_bipush (pc := 226) (v := nI 15) dL_act_226 (by first | rfl | decide) ?_
  refine G_icmp_neN (pc := 228) (tgt := 239) (by omega) (by omega) dL_act_228 (by decide) (fun _ => ?_) (fun h => absurd h (by decide))
  refine G_iload_n (pc := 239) dL_act_239 rfl ?_
  refine G_bipush (pc := 240) (v := nI 16) dL_act_240 (by first | rfl | decide) ?_
  refine G_icmp_neN (pc := 242) (tgt := 253) (by omega) (by omega) dL_act_242 (by decide) (fun _ => ?_) (fun h => absurd h (by decide))
  refine G_iload_n (pc := 253) dL_act_253 rfl ?_
  refine G_bipush (pc := 254) (v := nI 17) dL_act_254 (by first | rfl | decide) ?_
  refine G_icmp_neN (pc := 256) (tgt := 267) (by omega) (by omega) dL_act_256 (by decide) (fun _ => ?_) (fun h => absurd h (by decide))
  refine G_iload_n (pc := 267) dL_act_267 rfl ?_
  refine G_bipush (pc := 268) (v := nI 18) dL_act_268 (by first | rfl | decide) ?_
  refine G_icmp_neN (pc := 270) (tgt := 281) (by omega) (by omega) dL_act_270 (by decide) (fun _ => ?_) (fun h => absurd h (by decide))
  refine G_iload_n (pc := 281) dL_act_281 rfl ?_
  refine G_bipush (pc := 282) (v := nI 19) dL_act_282 (by first | rfl | decide) ?_
  refine G_icmp_neN (pc := 284) (tgt := 295) (by omega) (by omega) dL_act_284 (by decide) (fun _ => ?_) (fun h => absurd h (by decide))
  refine G_iload_n (pc := 295) dL_act_295 rfl ?_
  refine G_bipush (pc := 296) (v := nI 20) dL_act_296 (by first | rfl | decide) ?_
  refine G_icmp_neN (pc := 298) (tgt := 309) (by omega) (by omega) dL_act_298 (by decide) (fun _ => ?_) (fun h => absurd h (by decide))
  refine G_iload_n (pc := 309) dL_act_309 rfl ?_
  refine G_bipush (pc := 310) (v := nI 21) dL_act_310 (by first | rfl | decide) ?_
  refine G_icmp_neN (pc := 312) (tgt := 323) (by omega) (by omega) dL_act_312 (by decide) (fun _ => ?_) (fun h => absurd h (by decide))
  refine G_iload_n (pc := 323) dL_act_323 rfl ?_
  refine G_bipush (pc := 324) (v := nI 22) dL_act_324 (by first | rfl | decide) ?_
  refine G_icmp_neN (pc := 326) (tgt := 337) (by omega) (by omega) dL_act_326 (by decide) (fun _ => ?_) (fun h => absurd h (by decide))
  refine G_iload_n (pc := 337) dL_act_337 rfl ?_
  refine G_bipush (pc := 338) (v := nI 23) dL_act_338 (by first | rfl | decide) ?_
  refine G_icmp_neN (pc := 340) (tgt := 351) (by omega) (by omega) dL_act_340 (by decide) (fun _ => ?_) (fun h => absurd h (by decide))
  refine G_iload_n (pc := 351) dL_act_351 rfl ?_
  refine G_bipush (pc := 352) (v := nI 24) dL_act_352 (by first | rfl | decide) ?_
  refine G_icmp_neN (pc := 354) (tgt := 373) (by omega) (by omega) dL_act_354 (by decide) (fun h => absurd h (by decide)) (fun _ => ?_)
  refine G_aload_n (pc := 357) dL_act_357 rfl ?_
  refine G_iload_n (pc := 358) dL_act_358 rfl ?_
  refine K_V1 (pc := 359) (k' := (1, 6)) mok_X9_isFree lk_L_83 (sh_k hH) rfl rfl rfl (aok0 rfl) dL_act_359 (hop) rfl (fun v1 Y1 q1 => ?_) (fun E1 Y1 q1 => ?_)
  · obtain ⟨e1, e2, e3⟩ := q1; subst e1
    show G _ _ _ _ _ _ _ (_ :: _) _
    refine G_if_eq (pc := 362) (tgt := 369) dL_act_362 (by decide) (fun c362 => ?_) (fun c362 => ?_)
    · skip
      have ey : (if b = 0 then nI 0 else nI 1) = nI 0 := if_pos c362
      refine G_iconst (pc := 369) (v := nI 0) dL_act_369 (by first | rfl | decide) ?_
      refine G_goto (pc := 370) (tgt := 494) dL_act_370 (by decide) ?_
      refine G_iret (pc := 494) VZ.x dL_act_494 rfl ⟨by decide, by decide⟩ ?_
      have e := hv _ e2 e3
      rw [ey] at e
      exact e
    · skip
      have ey : (if b = 0 then nI 0 else nI 1) = nI 1 := if_neg c362
      refine G_iconst (pc := 365) (v := nI 1) dL_act_365 (by first | rfl | decide) ?_
      refine G_goto (pc := 366) (tgt := 494) dL_act_366 (by decide) ?_
      refine G_iret (pc := 494) VZ.x dL_act_494 rfl ⟨by decide, by decide⟩ ?_
      have e := hv _ e2 e3
      rw [ey] at e
      exact e
  · obtain ⟨i9, h1, h2, h3⟩ := q1
    rcases hes E1 (List.mem_of_getElem? h1) with rfl | rfl | rfl
    · refine GX_catch [] _ _ rfl (fun z hz => absurd hz List.not_mem_nil) rfl (by decide) cl_L_111 ct_IO (hp := 495) (i := 5) (len := 2) rfl (Or.inr ⟨rfl, dL_act_495⟩) (by decide) ?_
      refine G_bipush (pc := 497) (v := -71) dL_act_497 (by first | rfl | decide) ?_
      refine G_iret (pc := 499) VZ.x dL_act_499 rfl ⟨by decide, by decide⟩ ?_
      have e := hx i9 _ _ h1 h2 h3
      rw [xc_IO] at e
      exact e
    · refine GX_catch [_] _ _ rfl (fun z hz => by rw [List.mem_singleton.mp hz]; exact Or.inr ⟨by decide, _, cl_L_111, by decide⟩) rfl (by decide) cl_L_113 ct_IA (hp := 500) (i := 5) (len := 2) rfl (Or.inr ⟨rfl, dL_act_500⟩) (by decide) ?_
      refine G_bipush (pc := 502) (v := -72) dL_act_502 (by first | rfl | decide) ?_
      refine G_iret (pc := 504) VZ.x dL_act_504 rfl ⟨by decide, by decide⟩ ?_
      have e := hx i9 _ _ h1 h2 h3
      rw [xc_IA] at e
      exact e
    · refine GX_catch [_, _] _ _ rfl (fun z hz => by rcases List.mem_cons.mp hz with rfl | hz; exact Or.inr ⟨by decide, _, cl_L_111, by decide⟩; rw [List.mem_singleton.mp hz]; exact Or.inr ⟨by decide, _, cl_L_113, by decide⟩) rfl (by decide) cl_L_115 ct_IS (hp := 505) (i := 5) (len := 2) rfl (Or.inr ⟨rfl, dL_act_505⟩) (by decide) ?_
      refine G_bipush (pc := 507) (v := -73) dL_act_507 (by first | rfl | decide) ?_
      refine G_iret (pc := 509) VZ.x dL_act_509 rfl ⟨by decide, by decide⟩ ?_
      have e := hx i9 _ _ h1 h2 h3
      rw [xc_IS] at e
      exact e
theorem act_25 {Γ : GTy} {Z : HS} {P : HS → FT → Prop} {F' : FT} {x y z b : Int32} {es : List String} {QV' : Option Value → HS → Prop} (hH : SH Z) (hop : Tt Γ M_X9_turn [.ref 800000, .int x] Z (QVo P Z F' b) (QXo P Z F' es)) (hes : ∀ E, E ∈ es → E = xIO ∨ E = xIA ∨ E = xIS) (hv : ∀ Z' : HS, F' 25 0 = nI 0 → P Z' F' → QV' (some (.int b)) Z') (hx : ∀ (i : Nat) (E : String) (Z' : HS), es[i]? = some E → F' 25 0 = nI (i + 1) → P Z' F' → QV' (some (.int (xc E))) Z') : Tw Γ M_L_act [.ref 800000, .int (nI 25), .int x, .int y, .int z] Z QV' noX := by
  refine Tw_of' rfl rfl ?_
  show G Γ M_L_act (rm M_L_act) (Vt Γ M_L_act QV' noX) (0, 0) 0 [some (.ref 800000), some (.int (nI 25)), some (.int x), some (.int y), some (.int z), none] [] Z
  refine G_iload_n (pc := 0) dL_act_0 rfl ?_
  refine G_if_neN (pc := 1) (tgt := 12) (by omega) dL_act_1 (by decide) (fun _ => ?_) (fun h => absurd h (by decide))
  refine G_iload_n (pc := 12) dL_act_12 rfl ?_
  refine G_iconst (pc := 13) (v := nI 1) dL_act_13 (by first | rfl | decide) ?_
  refine G_icmp_neN (pc := 14) (tgt := 26) (by omega) (by omega) dL_act_14 (by decide) (fun _ => ?_) (fun h => absurd h (by decide))
  refine G_iload_n (pc := 26) dL_act_26 rfl ?_
  refine G_iconst (pc := 27) (v := nI 2) dL_act_27 (by first | rfl | decide) ?_
  refine G_icmp_neN (pc := 28) (tgt := 39) (by omega) (by omega) dL_act_28 (by decide) (fun _ => ?_) (fun h => absurd h (by decide))
  refine G_iload_n (pc := 39) dL_act_39 rfl ?_
  refine G_iconst (pc := 40) (v := nI 3) dL_act_40 (by first | rfl | decide) ?_
  refine G_icmp_neN (pc := 41) (tgt := 52) (by omega) (by omega) dL_act_41 (by decide) (fun _ => ?_) (fun h => absurd h (by decide))
  refine G_iload_n (pc := 52) dL_act_52 rfl ?_
  refine G_iconst (pc := 53) (v := nI 4) dL_act_53 (by first | rfl | decide) ?_
  refine G_icmp_neN (pc := 54) (tgt := 65) (by omega) (by omega) dL_act_54 (by decide) (fun _ => ?_) (fun h => absurd h (by decide))
  refine G_iload_n (pc := 65) dL_act_65 rfl ?_
  refine G_iconst (pc := 66) (v := nI 5) dL_act_66 (by first | rfl | decide) ?_
  refine G_icmp_neN (pc := 67) (tgt := 78) (by omega) (by omega) dL_act_67 (by decide) (fun _ => ?_) (fun h => absurd h (by decide))
  refine G_iload_n (pc := 78) dL_act_78 rfl ?_
  refine G_bipush (pc := 79) (v := nI 6) dL_act_79 (by first | rfl | decide) ?_
  refine G_icmp_neN (pc := 81) (tgt := 96) (by omega) (by omega) dL_act_81 (by decide) (fun _ => ?_) (fun h => absurd h (by decide))
  refine G_iload_n (pc := 96) dL_act_96 rfl ?_
  refine G_bipush (pc := 97) (v := nI 7) dL_act_97 (by first | rfl | decide) ?_
  refine G_icmp_neN (pc := 99) (tgt := 114) (by omega) (by omega) dL_act_99 (by decide) (fun _ => ?_) (fun h => absurd h (by decide))
  refine G_iload_n (pc := 114) dL_act_114 rfl ?_
  refine G_bipush (pc := 115) (v := nI 8) dL_act_115 (by first | rfl | decide) ?_
  refine G_icmp_neN (pc := 117) (tgt := 129) (by omega) (by omega) dL_act_117 (by decide) (fun _ => ?_) (fun h => absurd h (by decide))
  refine G_iload_n (pc := 129) dL_act_129 rfl ?_
  refine G_bipush (pc := 130) (v := nI 9) dL_act_130 (by first | rfl | decide) ?_
  refine G_icmp_neN (pc := 132) (tgt := 146) (by omega) (by omega) dL_act_132 (by decide) (fun _ => ?_) (fun h => absurd h (by decide))
  refine G_iload_n (pc := 146) dL_act_146 rfl ?_
  refine G_bipush (pc := 147) (v := nI 10) dL_act_147 (by first | rfl | decide) ?_
  refine G_icmp_neN (pc := 149) (tgt := 161) (by omega) (by omega) dL_act_149 (by decide) (fun _ => ?_) (fun h => absurd h (by decide))
  refine G_iload_n (pc := 161) dL_act_161 rfl ?_
  refine G_bipush (pc := 162) (v := nI 11) dL_act_162 (by first | rfl | decide) ?_
  refine G_icmp_neN (pc := 164) (tgt := 175) (by omega) (by omega) dL_act_164 (by decide) (fun _ => ?_) (fun h => absurd h (by decide))
  refine G_iload_n (pc := 175) dL_act_175 rfl ?_
  refine G_bipush (pc := 176) (v := nI 12) dL_act_176 (by first | rfl | decide) ?_
  refine G_icmp_neN (pc := 178) (tgt := 189) (by omega) (by omega) dL_act_178 (by decide) (fun _ => ?_) (fun h => absurd h (by decide))
  refine G_iload_n (pc := 189) dL_act_189 rfl ?_
  refine G_bipush (pc := 190) (v := nI 13) dL_act_190 (by first | rfl | decide) ?_
  refine G_icmp_neN (pc := 192) (tgt := 211) (by omega) (by omega) dL_act_192 (by decide) (fun _ => ?_) (fun h => absurd h (by decide))
  refine G_iload_n (pc := 211) dL_act_211 rfl ?_
  refine G_bipush (pc := 212) (v := nI 14) dL_act_212 (by first | rfl | decide) ?_
  refine G_icmp_neN (pc := 214) (tgt := 225) (by omega) (by omega) dL_act_214 (by decide) (fun _ => ?_) (fun h => absurd h (by decide))
  refine G_iload_n (pc := 225) dL_act_225 rfl ?_
  refine G_bipush (pc := 226) (v := nI 15) dL_act_226 (by first | rfl | decide) ?_
  refine G_icmp_neN (pc := 228) (tgt := 239) (by omega) (by omega) dL_act_228 (by decide) (fun _ => ?_) (fun h => absurd h (by decide))
  refine G_iload_n (pc := 239) dL_act_239 rfl ?_
  refine G_bipush (pc := 240) (v := nI 16) dL_act_240 (by first | rfl | decide) ?_
  refine G_icmp_neN (pc := 242) (tgt := 253) (by omega) (by omega) dL_act_242 (by decide) (fun _ => ?_) (fun h => absurd h (by decide))
  refine G_iload_n (pc := 253) dL_act_253 rfl ?_
  refine G_bipush (pc := 254) (v := nI 17) dL_act_254 (by first | rfl | decide) ?_
  refine G_icmp_neN (pc := 256) (tgt := 267) (by omega) (by omega) dL_act_256 (by decide) (fun _ => ?_) (fun h => absurd h (by decide))
  refine G_iload_n (pc := 267) dL_act_267 rfl ?_
  refine G_bipush (pc := 268) (v := nI 18) dL_act_268 (by first | rfl | decide) ?_
  refine G_icmp_neN (pc := 270) (tgt := 281) (by omega) (by omega) dL_act_270 (by decide) (fun _ => ?_) (fun h => absurd h (by decide))
  refine G_iload_n (pc := 281) dL_act_281 rfl ?_
  refine G_bipush (pc := 282) (v := nI 19) dL_act_282 (by first | rfl | decide) ?_
  refine G_icmp_neN (pc := 284) (tgt := 295) (by omega) (by omega) dL_act_284 (by decide) (fun _ => ?_) (fun h => absurd h (by decide))
  refine G_iload_n (pc := 295) dL_act_295 rfl ?_
  refine G_bipush (pc := 296) (v := nI 20) dL_act_296 (by first | rfl | decide) ?_
  refine G_icmp_neN (pc := 298) (tgt := 309) (by omega) (by omega) dL_act_298 (by decide) (fun _ => ?_) (fun h => absurd h (by decide))
  refine G_iload_n (pc := 309) dL_act_309 rfl ?_
  refine G_bipush (pc := 310) (v := nI 21) dL_act_310 (by first | rfl | decide) ?_
  refine G_icmp_neN (pc := 312) (tgt := 323) (by omega) (by omega) dL_act_312 (by decide) (fun _ => ?_) (fun h => absurd h (by decide))
  refine G_iload_n (pc := 323) dL_act_323 rfl ?_
  refine G_bipush (pc := 324) (v := nI 22) dL_act_324 (by first | rfl | decide) ?_
  refine G_icmp_neN (pc := 326) (tgt := 337) (by omega) (by omega) dL_act_326 (by decide) (fun _ => ?_) (fun h => absurd h (by decide))
  refine G_iload_n (pc := 337) dL_act_337 rfl ?_
  refine G_bipush (pc := 338) (v := nI 23) dL_act_338 (by first | rfl | decide) ?_
  refine G_icmp_neN (pc := 340) (tgt := 351) (by omega) (by omega) dL_act_340 (by decide) (fun _ => ?_) (fun h => absurd h (by decide))
  refine G_iload_n (pc := 351) dL_act_351 rfl ?_
  refine G_bipush (pc := 352) (v := nI 24) dL_act_352 (by first | rfl | decide) ?_
  refine G_icmp_neN (pc := 354) (tgt := 373) (by omega) (by omega) dL_act_354 (by decide) (fun _ => ?_) (fun h => absurd h (by decide))
  refine G_iload_n (pc := 373) dL_act_373 rfl ?_
  refine G_bipush (pc := 374) (v := nI 25) dL_act_374 (by first | rfl | decide) ?_
  refine G_icmp_neN (pc := 376) (tgt := 387) (by omega) (by omega) dL_act_376 (by decide) (fun h => absurd h (by decide)) (fun _ => ?_)
  refine G_aload_n (pc := 379) dL_act_379 rfl ?_
  refine G_iload_n (pc := 380) dL_act_380 rfl ?_
  refine K_V1 (pc := 381) (k' := (1, 6)) mok_X9_turn lk_L_86 (sh_k hH) rfl rfl rfl (aok0 rfl) dL_act_381 (hop) rfl (fun v1 Y1 q1 => ?_) (fun E1 Y1 q1 => ?_)
  · obtain ⟨e1, e2, e3⟩ := q1; subst e1
    show G _ _ _ _ _ _ _ (_ :: _) _
    refine G_goto (pc := 384) (tgt := 494) dL_act_384 (by decide) ?_
    refine G_iret (pc := 494) VZ.x dL_act_494 rfl ⟨by decide, by decide⟩ ?_
    exact hv _ e2 e3
  · obtain ⟨i9, h1, h2, h3⟩ := q1
    rcases hes E1 (List.mem_of_getElem? h1) with rfl | rfl | rfl
    · refine GX_catch [] _ _ rfl (fun z hz => absurd hz List.not_mem_nil) rfl (by decide) cl_L_111 ct_IO (hp := 495) (i := 5) (len := 2) rfl (Or.inr ⟨rfl, dL_act_495⟩) (by decide) ?_
      refine G_bipush (pc := 497) (v := -71) dL_act_497 (by first | rfl | decide) ?_
      refine G_iret (pc := 499) VZ.x dL_act_499 rfl ⟨by decide, by decide⟩ ?_
      have e := hx i9 _ _ h1 h2 h3
      rw [xc_IO] at e
      exact e
    · refine GX_catch [_] _ _ rfl (fun z hz => by rw [List.mem_singleton.mp hz]; exact Or.inr ⟨by decide, _, cl_L_111, by decide⟩) rfl (by decide) cl_L_113 ct_IA (hp := 500) (i := 5) (len := 2) rfl (Or.inr ⟨rfl, dL_act_500⟩) (by decide) ?_
      refine G_bipush (pc := 502) (v := -72) dL_act_502 (by first | rfl | decide) ?_
      refine G_iret (pc := 504) VZ.x dL_act_504 rfl ⟨by decide, by decide⟩ ?_
      have e := hx i9 _ _ h1 h2 h3
      rw [xc_IA] at e
      exact e
    · refine GX_catch [_, _] _ _ rfl (fun z hz => by rcases List.mem_cons.mp hz with rfl | hz; exact Or.inr ⟨by decide, _, cl_L_111, by decide⟩; rw [List.mem_singleton.mp hz]; exact Or.inr ⟨by decide, _, cl_L_113, by decide⟩) rfl (by decide) cl_L_115 ct_IS (hp := 505) (i := 5) (len := 2) rfl (Or.inr ⟨rfl, dL_act_505⟩) (by decide) ?_
      refine G_bipush (pc := 507) (v := -73) dL_act_507 (by first | rfl | decide) ?_
      refine G_iret (pc := 509) VZ.x dL_act_509 rfl ⟨by decide, by decide⟩ ?_
      have e := hx i9 _ _ h1 h2 h3
      rw [xc_IS] at e
      exact e
theorem act_26 {Γ : GTy} {Z : HS} {P : HS → FT → Prop} {F' : FT} {x z b : Int32} {es : List String} {QV' : Option Value → HS → Prop} (hH : SH Z) (hop : Tt Γ M_X9_points [.ref 800000, .int x, .int (nI 0)] Z (QVo P Z F' b) (QXo P Z F' es)) (hes : ∀ E, E ∈ es → E = xIO ∨ E = xIA ∨ E = xIS) (hv : ∀ Z' : HS, F' 25 0 = nI 0 → P Z' F' → QV' (some (.int b)) Z') (hx : ∀ (i : Nat) (E : String) (Z' : HS), es[i]? = some E → F' 25 0 = nI (i + 1) → P Z' F' → QV' (some (.int (xc E))) Z') : Tw Γ M_L_act [.ref 800000, .int (nI 26), .int x, .int (nI 0), .int z] Z QV' noX := by
  refine Tw_of' rfl rfl ?_
  show G Γ M_L_act (rm M_L_act) (Vt Γ M_L_act QV' noX) (0, 0) 0 [some (.ref 800000), some (.int (nI 26)), some (.int x), some (.int (nI 0)), some (.int z), none] [] Z
  refine G_iload_n (pc := 0) dL_act_0 rfl ?_
  refine G_if_neN (pc := 1) (tgt := 12) (by omega) dL_act_1 (by decide) (fun _ => ?_) (fun h => absurd h (by decide))
  refine G_iload_n (pc := 12) dL_act_12 rfl ?_
  refine G_iconst (pc := 13) (v := nI 1) dL_act_13 (by first | rfl | decide) ?_
  refine G_icmp_neN (pc := 14) (tgt := 26) (by omega) (by omega) dL_act_14 (by decide) (fun _ => ?_) (fun h => absurd h (by decide))
  refine G_iload_n (pc := 26) dL_act_26 rfl ?_
  refine G_iconst (pc := 27) (v := nI 2) dL_act_27 (by first | rfl | decide) ?_
  refine G_icmp_neN (pc := 28) (tgt := 39) (by omega) (by omega) dL_act_28 (by decide) (fun _ => ?_) (fun h => absurd h (by decide))
  refine G_iload_n (pc := 39) dL_act_39 rfl ?_
  refine G_iconst (pc := 40) (v := nI 3) dL_act_40 (by first | rfl | decide) ?_
  refine G_icmp_neN (pc := 41) (tgt := 52) (by omega) (by omega) dL_act_41 (by decide) (fun _ => ?_) (fun h => absurd h (by decide))
  refine G_iload_n (pc := 52) dL_act_52 rfl ?_
  refine G_iconst (pc := 53) (v := nI 4) dL_act_53 (by first | rfl | decide) ?_
  refine G_icmp_neN (pc := 54) (tgt := 65) (by omega) (by omega) dL_act_54 (by decide) (fun _ => ?_) (fun h => absurd h (by decide))
  refine G_iload_n (pc := 65) dL_act_65 rfl ?_
  refine G_iconst (pc := 66) (v := nI 5) dL_act_66 (by first | rfl | decide) ?_
  refine G_icmp_neN (pc := 67) (tgt := 78) (by omega) (by omega) dL_act_67 (by decide) (fun _ => ?_) (fun h => absurd h (by decide))
  refine G_iload_n (pc := 78) dL_act_78 rfl ?_
  refine G_bipush (pc := 79) (v := nI 6) dL_act_79 (by first | rfl | decide) ?_
  refine G_icmp_neN (pc := 81) (tgt := 96) (by omega) (by omega) dL_act_81 (by decide) (fun _ => ?_) (fun h => absurd h (by decide))
  refine G_iload_n (pc := 96) dL_act_96 rfl ?_
  refine G_bipush (pc := 97) (v := nI 7) dL_act_97 (by first | rfl | decide) ?_
  refine G_icmp_neN (pc := 99) (tgt := 114) (by omega) (by omega) dL_act_99 (by decide) (fun _ => ?_) (fun h => absurd h (by decide))
  refine G_iload_n (pc := 114) dL_act_114 rfl ?_
  refine G_bipush (pc := 115) (v := nI 8) dL_act_115 (by first | rfl | decide) ?_
  refine G_icmp_neN (pc := 117) (tgt := 129) (by omega) (by omega) dL_act_117 (by decide) (fun _ => ?_) (fun h => absurd h (by decide))
  refine G_iload_n (pc := 129) dL_act_129 rfl ?_
  refine G_bipush (pc := 130) (v := nI 9) dL_act_130 (by first | rfl | decide) ?_
  refine G_icmp_neN (pc := 132) (tgt := 146) (by omega) (by omega) dL_act_132 (by decide) (fun _ => ?_) (fun h => absurd h (by decide))
  refine G_iload_n (pc := 146) dL_act_146 rfl ?_
  refine G_bipush (pc := 147) (v := nI 10) dL_act_147 (by first | rfl | decide) ?_
  refine G_icmp_neN (pc := 149) (tgt := 161) (by omega) (by omega) dL_act_149 (by decide) (fun _ => ?_) (fun h => absurd h (by decide))
  refine G_iload_n (pc := 161) dL_act_161 rfl ?_
  refine G_bipush (pc := 162) (v := nI 11) dL_act_162 (by first | rfl | decide) ?_
  refine G_icmp_neN (pc := 164) (tgt := 175) (by omega) (by omega) dL_act_164 (by decide) (fun _ => ?_) (fun h => absurd h (by decide))
  refine G_iload_n (pc := 175) dL_act_175 rfl ?_
  refine G_bipush (pc := 176) (v := nI 12) dL_act_176 (by first | rfl | decide) ?_
  refine G_icmp_neN (pc := 178) (tgt := 189) (by omega) (by omega) dL_act_178 (by decide) (fun _ => ?_) (fun h => absurd h (by decide))
  refine G_iload_n (pc := 189) dL_act_189 rfl ?_
  refine G_bipush (pc := 190) (v := nI 13) dL_act_190 (by first | rfl | decide) ?_
  refine G_icmp_neN (pc := 192) (tgt := 211) (by omega) (by omega) dL_act_192 (by decide) (fun _ => ?_) (fun h => absurd h (by decide))
  refine G_iload_n (pc := 211) dL_act_211 rfl ?_
  refine G_bipush (pc := 212) (v := nI 14) dL_act_212 (by first | rfl | decide) ?_
  refine G_icmp_neN (pc := 214) (tgt := 225) (by omega) (by omega) dL_act_214 (by decide) (fun _ => ?_) (fun h => absurd h (by decide))
  refine G_iload_n (pc := 225) dL_act_225 rfl ?_
  refine G_bipush (pc := 226) (v := nI 15) dL_act_226 (by first | rfl | decide) ?_
  refine G_icmp_neN (pc := 228) (tgt := 239) (by omega) (by omega) dL_act_228 (by decide) (fun _ => ?_) (fun h => absurd h (by decide))
  refine G_iload_n (pc := 239) dL_act_239 rfl ?_
  refine G_bipush (pc := 240) (v := nI 16) dL_act_240 (by first | rfl | decide) ?_
  refine G_icmp_neN (pc := 242) (tgt := 253) (by omega) (by omega) dL_act_242 (by decide) (fun _ => ?_) (fun h => absurd h (by decide))
  refine G_iload_n (pc := 253) dL_act_253 rfl ?_
  refine G_bipush (pc := 254) (v := nI 17) dL_act_254 (by first | rfl | decide) ?_
  refine G_icmp_neN (pc := 256) (tgt := 267) (by omega) (by omega) dL_act_256 (by decide) (fun _ => ?_) (fun h => absurd h (by decide))
  refine G_iload_n (pc := 267) dL_act_267 rfl ?_
  refine G_bipush (pc := 268) (v := nI 18) dL_act_268 (by first | rfl | decide) ?_
  refine G_icmp_neN (pc := 270) (tgt := 281) (by omega) (by omega) dL_act_270 (by decide) (fun _ => ?_) (fun h => absurd h (by decide))
  refine G_iload_n (pc := 281) dL_act_281 rfl ?_
  refine G_bipush (pc := 282) (v := nI 19) dL_act_282 (by first | rfl | decide) ?_
  refine G_icmp_neN (pc := 284) (tgt := 295) (by omega) (by omega) dL_act_284 (by decide) (fun _ => ?_) (fun h => absurd h (by decide))
  refine G_iload_n (pc := 295) dL_act_295 rfl ?_
  refine G_bipush (pc := 296) (v := nI 20) dL_act_296 (by first | rfl | decide) ?_
  refine G_icmp_neN (pc := 298) (tgt := 309) (by omega) (by omega) dL_act_298 (by decide) (fun _ => ?_) (fun h => absurd h (by decide))
  refine G_iload_n (pc := 309) dL_act_309 rfl ?_
  refine G_bipush (pc := 310) (v := nI 21) dL_act_310 (by first | rfl | decide) ?_
  refine G_icmp_neN (pc := 312) (tgt := 323) (by omega) (by omega) dL_act_312 (by decide) (fun _ => ?_) (fun h => absurd h (by decide))
  refine G_iload_n (pc := 323) dL_act_323 rfl ?_
  refine G_bipush (pc := 324) (v := nI 22) dL_act_324 (by first | rfl | decide) ?_
  refine G_icmp_neN (pc := 326) (tgt := 337) (by omega) (by omega) dL_act_326 (by decide) (fun _ => ?_) (fun h => absurd h (by decide))
  refine G_iload_n (pc := 337) dL_act_337 rfl ?_
  refine G_bipush (pc := 338) (v := nI 23) dL_act_338 (by first | rfl | decide) ?_
  refine G_icmp_neN (pc := 340) (tgt := 351) (by omega) (by omega) dL_act_340 (by decide) (fun _ => ?_) (fun h => absurd h (by decide))
  refine G_iload_n (pc := 351) dL_act_351 rfl ?_
  refine G_bipush (pc := 352) (v := nI 24) dL_act_352 (by first | rfl | decide) ?_
  refine G_icmp_neN (pc := 354) (tgt := 373) (by omega) (by omega) dL_act_354 (by decide) (fun _ => ?_) (fun h => absurd h (by decide))
  refine G_iload_n (pc := 373) dL_act_373 rfl ?_
  refine G_bipush (pc := 374) (v := nI 25) dL_act_374 (by first | rfl | decide) ?_
  refine G_icmp_neN (pc := 376) (tgt := 387) (by omega) (by omega) dL_act_376 (by decide) (fun _ => ?_) (fun h => absurd h (by decide))
  refine G_iload_n (pc := 387) dL_act_387 rfl ?_
  refine G_bipush (pc := 388) (v := nI 26) dL_act_388 (by first | rfl | decide) ?_
  refine G_icmp_neN (pc := 390) (tgt := 411) (by omega) (by omega) dL_act_390 (by decide) (fun h => absurd h (by decide)) (fun _ => ?_)
  refine G_aload_n (pc := 393) dL_act_393 rfl ?_
  refine G_iload_n (pc := 394) dL_act_394 rfl ?_
  refine G_iload_n (pc := 395) dL_act_395 rfl ?_
  refine G_iconst (pc := 396) (v := nI 1) dL_act_396 (by first | rfl | decide) ?_
  refine G_icmp_neN (pc := 397) (tgt := 404) (by omega) (by omega) dL_act_397 (by decide) (fun _ => ?_) (fun h => absurd h (by decide))
  refine G_iconst (pc := 404) (v := nI 0) dL_act_404 (by first | rfl | decide) ?_
  refine K_V2 (pc := 405) (k' := (1, 6)) mok_X9_points lk_L_89 (sh_k hH) rfl rfl rfl (aok0 rfl) dL_act_405 (hop) rfl (fun v1 Y1 q1 => ?_) (fun E1 Y1 q1 => ?_)
  · obtain ⟨e1, e2, e3⟩ := q1; subst e1
    show G _ _ _ _ _ _ _ (_ :: _) _
    refine G_goto (pc := 408) (tgt := 494) dL_act_408 (by decide) ?_
    refine G_iret (pc := 494) VZ.x dL_act_494 rfl ⟨by decide, by decide⟩ ?_
    exact hv _ e2 e3
  · obtain ⟨i9, h1, h2, h3⟩ := q1
    rcases hes E1 (List.mem_of_getElem? h1) with rfl | rfl | rfl
    · refine GX_catch [] _ _ rfl (fun z hz => absurd hz List.not_mem_nil) rfl (by decide) cl_L_111 ct_IO (hp := 495) (i := 5) (len := 2) rfl (Or.inr ⟨rfl, dL_act_495⟩) (by decide) ?_
      refine G_bipush (pc := 497) (v := -71) dL_act_497 (by first | rfl | decide) ?_
      refine G_iret (pc := 499) VZ.x dL_act_499 rfl ⟨by decide, by decide⟩ ?_
      have e := hx i9 _ _ h1 h2 h3
      rw [xc_IO] at e
      exact e
    · refine GX_catch [_] _ _ rfl (fun z hz => by rw [List.mem_singleton.mp hz]; exact Or.inr ⟨by decide, _, cl_L_111, by decide⟩) rfl (by decide) cl_L_113 ct_IA (hp := 500) (i := 5) (len := 2) rfl (Or.inr ⟨rfl, dL_act_500⟩) (by decide) ?_
      refine G_bipush (pc := 502) (v := -72) dL_act_502 (by first | rfl | decide) ?_
      refine G_iret (pc := 504) VZ.x dL_act_504 rfl ⟨by decide, by decide⟩ ?_
      have e := hx i9 _ _ h1 h2 h3
      rw [xc_IA] at e
      exact e
    · refine GX_catch [_, _] _ _ rfl (fun z hz => by rcases List.mem_cons.mp hz with rfl | hz; exact Or.inr ⟨by decide, _, cl_L_111, by decide⟩; rw [List.mem_singleton.mp hz]; exact Or.inr ⟨by decide, _, cl_L_113, by decide⟩) rfl (by decide) cl_L_115 ct_IS (hp := 505) (i := 5) (len := 2) rfl (Or.inr ⟨rfl, dL_act_505⟩) (by decide) ?_
      refine G_bipush (pc := 507) (v := -73) dL_act_507 (by first | rfl | decide) ?_
      refine G_iret (pc := 509) VZ.x dL_act_509 rfl ⟨by decide, by decide⟩ ?_
      have e := hx i9 _ _ h1 h2 h3
      rw [xc_IS] at e
      exact e
theorem act_27 {Γ : GTy} {Z : HS} {P : HS → FT → Prop} {F' : FT} {x y z b : Int32} {es : List String} {QV' : Option Value → HS → Prop} (hH : SH Z) (hop : Tt Γ M_X9_winner [.ref 800000, .int x] Z (QVo P Z F' b) (QXo P Z F' es)) (hes : ∀ E, E ∈ es → E = xIO ∨ E = xIA ∨ E = xIS) (hv : ∀ Z' : HS, F' 25 0 = nI 0 → P Z' F' → QV' (some (.int b)) Z') (hx : ∀ (i : Nat) (E : String) (Z' : HS), es[i]? = some E → F' 25 0 = nI (i + 1) → P Z' F' → QV' (some (.int (xc E))) Z') : Tw Γ M_L_act [.ref 800000, .int (nI 27), .int x, .int y, .int z] Z QV' noX := by
  refine Tw_of' rfl rfl ?_
  show G Γ M_L_act (rm M_L_act) (Vt Γ M_L_act QV' noX) (0, 0) 0 [some (.ref 800000), some (.int (nI 27)), some (.int x), some (.int y), some (.int z), none] [] Z
  refine G_iload_n (pc := 0) dL_act_0 rfl ?_
  refine G_if_neN (pc := 1) (tgt := 12) (by omega) dL_act_1 (by decide) (fun _ => ?_) (fun h => absurd h (by decide))
  refine G_iload_n (pc := 12) dL_act_12 rfl ?_
  refine G_iconst (pc := 13) (v := nI 1) dL_act_13 (by first | rfl | decide) ?_
  refine G_icmp_neN (pc := 14) (tgt := 26) (by omega) (by omega) dL_act_14 (by decide) (fun _ => ?_) (fun h => absurd h (by decide))
  refine G_iload_n (pc := 26) dL_act_26 rfl ?_
  refine G_iconst (pc := 27) (v := nI 2) dL_act_27 (by first | rfl | decide) ?_
  refine G_icmp_neN (pc := 28) (tgt := 39) (by omega) (by omega) dL_act_28 (by decide) (fun _ => ?_) (fun h => absurd h (by decide))
  refine G_iload_n (pc := 39) dL_act_39 rfl ?_
  refine G_iconst (pc := 40) (v := nI 3) dL_act_40 (by first | rfl | decide) ?_
  refine G_icmp_neN (pc := 41) (tgt := 52) (by omega) (by omega) dL_act_41 (by decide) (fun _ => ?_) (fun h => absurd h (by decide))
  refine G_iload_n (pc := 52) dL_act_52 rfl ?_
  refine G_iconst (pc := 53) (v := nI 4) dL_act_53 (by first | rfl | decide) ?_
  refine G_icmp_neN (pc := 54) (tgt := 65) (by omega) (by omega) dL_act_54 (by decide) (fun _ => ?_) (fun h => absurd h (by decide))
  refine G_iload_n (pc := 65) dL_act_65 rfl ?_
  refine G_iconst (pc := 66) (v := nI 5) dL_act_66 (by first | rfl | decide) ?_
  refine G_icmp_neN (pc := 67) (tgt := 78) (by omega) (by omega) dL_act_67 (by decide) (fun _ => ?_) (fun h => absurd h (by decide))
  refine G_iload_n (pc := 78) dL_act_78 rfl ?_
  refine G_bipush (pc := 79) (v := nI 6) dL_act_79 (by first | rfl | decide) ?_
  refine G_icmp_neN (pc := 81) (tgt := 96) (by omega) (by omega) dL_act_81 (by decide) (fun _ => ?_) (fun h => absurd h (by decide))
  refine G_iload_n (pc := 96) dL_act_96 rfl ?_
  refine G_bipush (pc := 97) (v := nI 7) dL_act_97 (by first | rfl | decide) ?_
  refine G_icmp_neN (pc := 99) (tgt := 114) (by omega) (by omega) dL_act_99 (by decide) (fun _ => ?_) (fun h => absurd h (by decide))
  refine G_iload_n (pc := 114) dL_act_114 rfl ?_
  refine G_bipush (pc := 115) (v := nI 8) dL_act_115 (by first | rfl | decide) ?_
  refine G_icmp_neN (pc := 117) (tgt := 129) (by omega) (by omega) dL_act_117 (by decide) (fun _ => ?_) (fun h => absurd h (by decide))
  refine G_iload_n (pc := 129) dL_act_129 rfl ?_
  refine G_bipush (pc := 130) (v := nI 9) dL_act_130 (by first | rfl | decide) ?_
  refine G_icmp_neN (pc := 132) (tgt := 146) (by omega) (by omega) dL_act_132 (by decide) (fun _ => ?_) (fun h => absurd h (by decide))
  refine G_iload_n (pc := 146) dL_act_146 rfl ?_
  refine G_bipush (pc := 147) (v := nI 10) dL_act_147 (by first | rfl | decide) ?_
  refine G_icmp_neN (pc := 149) (tgt := 161) (by omega) (by omega) dL_act_149 (by decide) (fun _ => ?_) (fun h => absurd h (by decide))
  refine G_iload_n (pc := 161) dL_act_161 rfl ?_
  refine G_bipush (pc := 162) (v := nI 11) dL_act_162 (by first | rfl | decide) ?_
  refine G_icmp_neN (pc := 164) (tgt := 175) (by omega) (by omega) dL_act_164 (by decide) (fun _ => ?_) (fun h => absurd h (by decide))
  refine G_iload_n (pc := 175) dL_act_175 rfl ?_
  refine G_bipush (pc := 176) (v := nI 12) dL_act_176 (by first | rfl | decide) ?_
  refine G_icmp_neN (pc := 178) (tgt := 189) (by omega) (by omega) dL_act_178 (by decide) (fun _ => ?_) (fun h => absurd h (by decide))
  refine G_iload_n (pc := 189) dL_act_189 rfl ?_
  refine G_bipush (pc := 190) (v := nI 13) dL_act_190 (by first | rfl | decide) ?_
  refine G_icmp_neN (pc := 192) (tgt := 211) (by omega) (by omega) dL_act_192 (by decide) (fun _ => ?_) (fun h => absurd h (by decide))
  refine G_iload_n (pc := 211) dL_act_211 rfl ?_
  refine G_bipush (pc := 212) (v := nI 14) dL_act_212 (by first | rfl | decide) ?_
  refine G_icmp_neN (pc := 214) (tgt := 225) (by omega) (by omega) dL_act_214 (by decide) (fun _ => ?_) (fun h => absurd h (by decide))
  refine G_iload_n (pc := 225) dL_act_225 rfl ?_
  refine G_bipush (pc := 226) (v := nI 15) dL_act_226 (by first | rfl | decide) ?_
  refine G_icmp_neN (pc := 228) (tgt := 239) (by omega) (by omega) dL_act_228 (by decide) (fun _ => ?_) (fun h => absurd h (by decide))
  refine G_iload_n (pc := 239) dL_act_239 rfl ?_
  refine G_bipush (pc := 240) (v := nI 16) dL_act_240 (by first | rfl | decide) ?_
  refine G_icmp_neN (pc := 242) (tgt := 253) (by omega) (by omega) dL_act_242 (by decide) (fun _ => ?_) (fun h => absurd h (by decide))
  refine G_iload_n (pc := 253) dL_act_253 rfl ?_
  refine G_bipush (pc := 254) (v := nI 17) dL_act_254 (by first | rfl | decide) ?_
  refine G_icmp_neN (pc := 256) (tgt := 267) (by omega) (by omega) dL_act_256 (by decide) (fun _ => ?_) (fun h => absurd h (by decide))
  refine G_iload_n (pc := 267) dL_act_267 rfl ?_
  refine G_bipush (pc := 268) (v := nI 18) dL_act_268 (by first | rfl | decide) ?_
  refine G_icmp_neN (pc := 270) (tgt := 281) (by omega) (by omega) dL_act_270 (by decide) (fun _ => ?_) (fun h => absurd h (by decide))
  refine G_iload_n (pc := 281) dL_act_281 rfl ?_
  refine G_bipush (pc := 282) (v := nI 19) dL_act_282 (by first | rfl | decide) ?_
  refine G_icmp_neN (pc := 284) (tgt := 295) (by omega) (by omega) dL_act_284 (by decide) (fun _ => ?_) (fun h => absurd h (by decide))
  refine G_iload_n (pc := 295) dL_act_295 rfl ?_
  refine G_bipush (pc := 296) (v := nI 20) dL_act_296 (by first | rfl | decide) ?_
  refine G_icmp_neN (pc := 298) (tgt := 309) (by omega) (by omega) dL_act_298 (by decide) (fun _ => ?_) (fun h => absurd h (by decide))
  refine G_iload_n (pc := 309) dL_act_309 rfl ?_
  refine G_bipush (pc := 310) (v := nI 21) dL_act_310 (by first | rfl | decide) ?_
  refine G_icmp_neN (pc := 312) (tgt := 323) (by omega) (by omega) dL_act_312 (by decide) (fun _ => ?_) (fun h => absurd h (by decide))
  refine G_iload_n (pc := 323) dL_act_323 rfl ?_
  refine G_bipush (pc := 324) (v := nI 22) dL_act_324 (by first | rfl | decide) ?_
  refine G_icmp_neN (pc := 326) (tgt := 337) (by omega) (by omega) dL_act_326 (by decide) (fun _ => ?_) (fun h => absurd h (by decide))
  refine G_iload_n (pc := 337) dL_act_337 rfl ?_
  refine G_bipush (pc := 338) (v := nI 23) dL_act_338 (by first | rfl | decide) ?_
  refine G_icmp_neN (pc := 340) (tgt := 351) (by omega) (by omega) dL_act_340 (by decide) (fun _ => ?_) (fun h => absurd h (by decide))
  refine G_iload_n (pc := 351) dL_act_351 rfl ?_
  refine G_bipush (pc := 352) (v := nI 24) dL_act_352 (by first | rfl | decide) ?_
  refine G_icmp_neN (pc := 354) (tgt := 373) (by omega) (by omega) dL_act_354 (by decide) (fun _ => ?_) (fun h => absurd h (by decide))
  refine G_iload_n (pc := 373) dL_act_373 rfl ?_
  refine G_bipush (pc := 374) (v := nI 25) dL_act_374 (by first | rfl | decide) ?_
  refine G_icmp_neN (pc := 376) (tgt := 387) (by omega) (by omega) dL_act_376 (by decide) (fun _ => ?_) (fun h => absurd h (by decide))
  refine G_iload_n (pc := 387) dL_act_387 rfl ?_
  refine G_bipush (pc := 388) (v := nI 26) dL_act_388 (by first | rfl | decide) ?_
  refine G_icmp_neN (pc := 390) (tgt := 411) (by omega) (by omega) dL_act_390 (by decide) (fun _ => ?_) (fun h => absurd h (by decide))
  refine G_iload_n (pc := 411) dL_act_411 rfl ?_
  refine G_bipush (pc := 412) (v := nI 27) dL_act_412 (by first | rfl | decide) ?_
  refine G_icmp_neN (pc := 414) (tgt := 425) (by omega) (by omega) dL_act_414 (by decide) (fun h => absurd h (by decide)) (fun _ => ?_)
  refine G_aload_n (pc := 417) dL_act_417 rfl ?_
  refine G_iload_n (pc := 418) dL_act_418 rfl ?_
  refine K_V1 (pc := 419) (k' := (1, 6)) mok_X9_winner lk_L_93 (sh_k hH) rfl rfl rfl (aok0 rfl) dL_act_419 (hop) rfl (fun v1 Y1 q1 => ?_) (fun E1 Y1 q1 => ?_)
  · obtain ⟨e1, e2, e3⟩ := q1; subst e1
    show G _ _ _ _ _ _ _ (_ :: _) _
    refine G_goto (pc := 422) (tgt := 494) dL_act_422 (by decide) ?_
    refine G_iret (pc := 494) VZ.x dL_act_494 rfl ⟨by decide, by decide⟩ ?_
    exact hv _ e2 e3
  · obtain ⟨i9, h1, h2, h3⟩ := q1
    rcases hes E1 (List.mem_of_getElem? h1) with rfl | rfl | rfl
    · refine GX_catch [] _ _ rfl (fun z hz => absurd hz List.not_mem_nil) rfl (by decide) cl_L_111 ct_IO (hp := 495) (i := 5) (len := 2) rfl (Or.inr ⟨rfl, dL_act_495⟩) (by decide) ?_
      refine G_bipush (pc := 497) (v := -71) dL_act_497 (by first | rfl | decide) ?_
      refine G_iret (pc := 499) VZ.x dL_act_499 rfl ⟨by decide, by decide⟩ ?_
      have e := hx i9 _ _ h1 h2 h3
      rw [xc_IO] at e
      exact e
    · refine GX_catch [_] _ _ rfl (fun z hz => by rw [List.mem_singleton.mp hz]; exact Or.inr ⟨by decide, _, cl_L_111, by decide⟩) rfl (by decide) cl_L_113 ct_IA (hp := 500) (i := 5) (len := 2) rfl (Or.inr ⟨rfl, dL_act_500⟩) (by decide) ?_
      refine G_bipush (pc := 502) (v := -72) dL_act_502 (by first | rfl | decide) ?_
      refine G_iret (pc := 504) VZ.x dL_act_504 rfl ⟨by decide, by decide⟩ ?_
      have e := hx i9 _ _ h1 h2 h3
      rw [xc_IA] at e
      exact e
    · refine GX_catch [_, _] _ _ rfl (fun z hz => by rcases List.mem_cons.mp hz with rfl | hz; exact Or.inr ⟨by decide, _, cl_L_111, by decide⟩; rw [List.mem_singleton.mp hz]; exact Or.inr ⟨by decide, _, cl_L_113, by decide⟩) rfl (by decide) cl_L_115 ct_IS (hp := 505) (i := 5) (len := 2) rfl (Or.inr ⟨rfl, dL_act_505⟩) (by decide) ?_
      refine G_bipush (pc := 507) (v := -73) dL_act_507 (by first | rfl | decide) ?_
      refine G_iret (pc := 509) VZ.x dL_act_509 rfl ⟨by decide, by decide⟩ ?_
      have e := hx i9 _ _ h1 h2 h3
      rw [xc_IS] at e
      exact e
theorem act_28 {Γ : GTy} {Z : HS} {P : HS → FT → Prop} {F' : FT} {x y z b : Int32} {es : List String} {QV' : Option Value → HS → Prop} (hH : SH Z) (hop : Tt Γ M_X9_cell [.ref 800000, .int x, .int y] Z (QVo P Z F' b) (QXo P Z F' es)) (hes : ∀ E, E ∈ es → E = xIO ∨ E = xIA ∨ E = xIS) (hv : ∀ Z' : HS, F' 25 0 = nI 0 → P Z' F' → QV' (some (.int b)) Z') (hx : ∀ (i : Nat) (E : String) (Z' : HS), es[i]? = some E → F' 25 0 = nI (i + 1) → P Z' F' → QV' (some (.int (xc E))) Z') : Tw Γ M_L_act [.ref 800000, .int (nI 28), .int x, .int y, .int z] Z QV' noX := by
  refine Tw_of' rfl rfl ?_
  show G Γ M_L_act (rm M_L_act) (Vt Γ M_L_act QV' noX) (0, 0) 0 [some (.ref 800000), some (.int (nI 28)), some (.int x), some (.int y), some (.int z), none] [] Z
  refine G_iload_n (pc := 0) dL_act_0 rfl ?_
  refine G_if_neN (pc := 1) (tgt := 12) (by omega) dL_act_1 (by decide) (fun _ => ?_) (fun h => absurd h (by decide))
  refine G_iload_n (pc := 12) dL_act_12 rfl ?_
  refine G_iconst (pc := 13) (v := nI 1) dL_act_13 (by first | rfl | decide) ?_
  refine G_icmp_neN (pc := 14) (tgt := 26) (by omega) (by omega) dL_act_14 (by decide) (fun _ => ?_) (fun h => absurd h (by decide))
  refine G_iload_n (pc := 26) dL_act_26 rfl ?_
  refine G_iconst (pc := 27) (v := nI 2) dL_act_27 (by first | rfl | decide) ?_
  refine G_icmp_neN (pc := 28) (tgt := 39) (by omega) (by omega) dL_act_28 (by decide) (fun _ => ?_) (fun h => absurd h (by decide))
  refine G_iload_n (pc := 39) dL_act_39 rfl ?_
  refine G_iconst (pc := 40) (v := nI 3) dL_act_40 (by first | rfl | decide) ?_
  refine G_icmp_neN (pc := 41) (tgt := 52) (by omega) (by omega) dL_act_41 (by decide) (fun _ => ?_) (fun h => absurd h (by decide))
  refine G_iload_n (pc := 52) dL_act_52 rfl ?_
  refine G_iconst (pc := 53) (v := nI 4) dL_act_53 (by first | rfl | decide) ?_
  refine G_icmp_neN (pc := 54) (tgt := 65) (by omega) (by omega) dL_act_54 (by decide) (fun _ => ?_) (fun h => absurd h (by decide))
  refine G_iload_n (pc := 65) dL_act_65 rfl ?_
  refine G_iconst (pc := 66) (v := nI 5) dL_act_66 (by first | rfl | decide) ?_
  refine G_icmp_neN (pc := 67) (tgt := 78) (by omega) (by omega) dL_act_67 (by decide) (fun _ => ?_) (fun h => absurd h (by decide))
  refine G_iload_n (pc := 78) dL_act_78 rfl ?_
  refine G_bipush (pc := 79) (v := nI 6) dL_act_79 (by first | rfl | decide) ?_
  refine G_icmp_neN (pc := 81) (tgt := 96) (by omega) (by omega) dL_act_81 (by decide) (fun _ => ?_) (fun h => absurd h (by decide))
  refine G_iload_n (pc := 96) dL_act_96 rfl ?_
  refine G_bipush (pc := 97) (v := nI 7) dL_act_97 (by first | rfl | decide) ?_
  refine G_icmp_neN (pc := 99) (tgt := 114) (by omega) (by omega) dL_act_99 (by decide) (fun _ => ?_) (fun h => absurd h (by decide))
  refine G_iload_n (pc := 114) dL_act_114 rfl ?_
  refine G_bipush (pc := 115) (v := nI 8) dL_act_115 (by first | rfl | decide) ?_
  refine G_icmp_neN (pc := 117) (tgt := 129) (by omega) (by omega) dL_act_117 (by decide) (fun _ => ?_) (fun h => absurd h (by decide))
  refine G_iload_n (pc := 129) dL_act_129 rfl ?_
  refine G_bipush (pc := 130) (v := nI 9) dL_act_130 (by first | rfl | decide) ?_
  refine G_icmp_neN (pc := 132) (tgt := 146) (by omega) (by omega) dL_act_132 (by decide) (fun _ => ?_) (fun h => absurd h (by decide))
  refine G_iload_n (pc := 146) dL_act_146 rfl ?_
  refine G_bipush (pc := 147) (v := nI 10) dL_act_147 (by first | rfl | decide) ?_
  refine G_icmp_neN (pc := 149) (tgt := 161) (by omega) (by omega) dL_act_149 (by decide) (fun _ => ?_) (fun h => absurd h (by decide))
  refine G_iload_n (pc := 161) dL_act_161 rfl ?_
  refine G_bipush (pc := 162) (v := nI 11) dL_act_162 (by first | rfl | decide) ?_
  refine G_icmp_neN (pc := 164) (tgt := 175) (by omega) (by omega) dL_act_164 (by decide) (fun _ => ?_) (fun h => absurd h (by decide))
  refine G_iload_n (pc := 175) dL_act_175 rfl ?_
  refine G_bipush (pc := 176) (v := nI 12) dL_act_176 (by first | rfl | decide) ?_
  refine G_icmp_neN (pc := 178) (tgt := 189) (by omega) (by omega) dL_act_178 (by decide) (fun _ => ?_) (fun h => absurd h (by decide))
  refine G_iload_n (pc := 189) dL_act_189 rfl ?_
  refine G_bipush (pc := 190) (v := nI 13) dL_act_190 (by first | rfl | decide) ?_
  refine G_icmp_neN (pc := 192) (tgt := 211) (by omega) (by omega) dL_act_192 (by decide) (fun _ => ?_) (fun h => absurd h (by decide))
  refine G_iload_n (pc := 211) dL_act_211 rfl ?_
  refine G_bipush (pc := 212) (v := nI 14) dL_act_212 (by first | rfl | decide) ?_
  refine G_icmp_neN (pc := 214) (tgt := 225) (by omega) (by omega) dL_act_214 (by decide) (fun _ => ?_) (fun h => absurd h (by decide))
  refine G_iload_n (pc := 225) dL_act_225 rfl ?_
  refine G_bipush (pc := 226) (v := nI 15) dL_act_226 (by first | rfl | decide) ?_
  refine G_icmp_neN (pc := 228) (tgt := 239) (by omega) (by omega) dL_act_228 (by decide) (fun _ => ?_) (fun h => absurd h (by decide))
  refine G_iload_n (pc := 239) dL_act_239 rfl ?_
  refine G_bipush (pc := 240) (v := nI 16) dL_act_240 (by first | rfl | decide) ?_
  refine G_icmp_neN (pc := 242) (tgt := 253) (by omega) (by omega) dL_act_242 (by decide) (fun _ => ?_) (fun h => absurd h (by decide))
  refine G_iload_n (pc := 253) dL_act_253 rfl ?_
  refine G_bipush (pc := 254) (v := nI 17) dL_act_254 (by first | rfl | decide) ?_
  refine G_icmp_neN (pc := 256) (tgt := 267) (by omega) (by omega) dL_act_256 (by decide) (fun _ => ?_) (fun h => absurd h (by decide))
  refine G_iload_n (pc := 267) dL_act_267 rfl ?_
  refine G_bipush (pc := 268) (v := nI 18) dL_act_268 (by first | rfl | decide) ?_
  refine G_icmp_neN (pc := 270) (tgt := 281) (by omega) (by omega) dL_act_270 (by decide) (fun _ => ?_) (fun h => absurd h (by decide))
  refine G_iload_n (pc := 281) dL_act_281 rfl ?_
  refine G_bipush (pc := 282) (v := nI 19) dL_act_282 (by first | rfl | decide) ?_
  refine G_icmp_neN (pc := 284) (tgt := 295) (by omega) (by omega) dL_act_284 (by decide) (fun _ => ?_) (fun h => absurd h (by decide))
  refine G_iload_n (pc := 295) dL_act_295 rfl ?_
  refine G_bipush (pc := 296) (v := nI 20) dL_act_296 (by first | rfl | decide) ?_
  refine G_icmp_neN (pc := 298) (tgt := 309) (by omega) (by omega) dL_act_298 (by decide) (fun _ => ?_) (fun h => absurd h (by decide))
  refine G_iload_n (pc := 309) dL_act_309 rfl ?_
  refine G_bipush (pc := 310) (v := nI 21) dL_act_310 (by first | rfl | decide) ?_
  refine G_icmp_neN (pc := 312) (tgt := 323) (by omega) (by omega) dL_act_312 (by decide) (fun _ => ?_) (fun h => absurd h (by decide))
  refine G_iload_n (pc := 323) dL_act_323 rfl ?_
  refine G_bipush (pc := 324) (v := nI 22) dL_act_324 (by first | rfl | decide) ?_
  refine G_icmp_neN (pc := 326) (tgt := 337) (by omega) (by omega) dL_act_326 (by decide) (fun _ => ?_) (fun h => absurd h (by decide))
  refine G_iload_n (pc := 337) dL_act_337 rfl ?_
  refine G_bipush (pc := 338) (v := nI 23) dL_act_338 (by first | rfl | decide) ?_
  refine G_icmp_neN (pc := 340) (tgt := 351) (by omega) (by omega) dL_act_340 (by decide) (fun _ => ?_) (fun h => absurd h (by decide))
  refine G_iload_n (pc := 351) dL_act_351 rfl ?_
  refine G_bipush (pc := 352) (v := nI 24) dL_act_352 (by first | rfl | decide) ?_
  refine G_icmp_neN (pc := 354) (tgt := 373) (by omega) (by omega) dL_act_354 (by decide) (fun _ => ?_) (fun h => absurd h (by decide))
  refine G_iload_n (pc := 373) dL_act_373 rfl ?_
  refine G_bipush (pc := 374) (v := nI 25) dL_act_374 (by first | rfl | decide) ?_
  refine G_icmp_neN (pc := 376) (tgt := 387) (by omega) (by omega) dL_act_376 (by decide) (fun _ => ?_) (fun h => absurd h (by decide))
  refine G_iload_n (pc := 387) dL_act_387 rfl ?_
  refine G_bipush (pc := 388) (v := nI 26) dL_act_388 (by first | rfl | decide) ?_
  refine G_icmp_neN (pc := 390) (tgt := 411) (by omega) (by omega) dL_act_390 (by decide) (fun _ => ?_) (fun h => absurd h (by decide))
  refine G_iload_n (pc := 411) dL_act_411 rfl ?_
  refine G_bipush (pc := 412) (v := nI 27) dL_act_412 (by first | rfl | decide) ?_
  refine G_icmp_neN (pc := 414) (tgt := 425) (by omega) (by omega) dL_act_414 (by decide) (fun _ => ?_) (fun h => absurd h (by decide))
  refine G_iload_n (pc := 425) dL_act_425 rfl ?_
  refine G_bipush (pc := 426) (v := nI 28) dL_act_426 (by first | rfl | decide) ?_
  refine G_icmp_neN (pc := 428) (tgt := 440) (by omega) (by omega) dL_act_428 (by decide) (fun h => absurd h (by decide)) (fun _ => ?_)
  refine G_aload_n (pc := 431) dL_act_431 rfl ?_
  refine G_iload_n (pc := 432) dL_act_432 rfl ?_
  refine G_iload_n (pc := 433) dL_act_433 rfl ?_
  refine K_V2 (pc := 434) (k' := (2, 12)) mok_X9_cell lk_L_96 (sh_k hH) rfl rfl rfl (aok0 rfl) dL_act_434 (hop) rfl (fun v1 Y1 q1 => ?_) (fun E1 Y1 q1 => ?_)
  · obtain ⟨e1, e2, e3⟩ := q1; subst e1
    show G _ _ _ _ _ _ _ (_ :: _) _
    refine G_goto (pc := 437) (tgt := 494) dL_act_437 (by decide) ?_
    refine G_iret (pc := 494) VZ.x dL_act_494 rfl ⟨by decide, by decide⟩ ?_
    exact hv _ e2 e3
  · obtain ⟨i9, h1, h2, h3⟩ := q1
    rcases hes E1 (List.mem_of_getElem? h1) with rfl | rfl | rfl
    · refine GX_catch [] _ _ rfl (fun z hz => absurd hz List.not_mem_nil) rfl (by decide) cl_L_111 ct_IO (hp := 495) (i := 5) (len := 2) rfl (Or.inr ⟨rfl, dL_act_495⟩) (by decide) ?_
      refine G_bipush (pc := 497) (v := -71) dL_act_497 (by first | rfl | decide) ?_
      refine G_iret (pc := 499) VZ.x dL_act_499 rfl ⟨by decide, by decide⟩ ?_
      have e := hx i9 _ _ h1 h2 h3
      rw [xc_IO] at e
      exact e
    · refine GX_catch [_] _ _ rfl (fun z hz => by rw [List.mem_singleton.mp hz]; exact Or.inr ⟨by decide, _, cl_L_111, by decide⟩) rfl (by decide) cl_L_113 ct_IA (hp := 500) (i := 5) (len := 2) rfl (Or.inr ⟨rfl, dL_act_500⟩) (by decide) ?_
      refine G_bipush (pc := 502) (v := -72) dL_act_502 (by first | rfl | decide) ?_
      refine G_iret (pc := 504) VZ.x dL_act_504 rfl ⟨by decide, by decide⟩ ?_
      have e := hx i9 _ _ h1 h2 h3
      rw [xc_IA] at e
      exact e
    · refine GX_catch [_, _] _ _ rfl (fun z hz => by rcases List.mem_cons.mp hz with rfl | hz; exact Or.inr ⟨by decide, _, cl_L_111, by decide⟩; rw [List.mem_singleton.mp hz]; exact Or.inr ⟨by decide, _, cl_L_113, by decide⟩) rfl (by decide) cl_L_115 ct_IS (hp := 505) (i := 5) (len := 2) rfl (Or.inr ⟨rfl, dL_act_505⟩) (by decide) ?_
      refine G_bipush (pc := 507) (v := -73) dL_act_507 (by first | rfl | decide) ?_
      refine G_iret (pc := 509) VZ.x dL_act_509 rfl ⟨by decide, by decide⟩ ?_
      have e := hx i9 _ _ h1 h2 h3
      rw [xc_IS] at e
      exact e
theorem act_29 {Γ : GTy} {Z : HS} {P : HS → FT → Prop} {F' : FT} {x y z b : Int32} {es : List String} {QV' : Option Value → HS → Prop} (hH : SH Z) (hop : Tt Γ M_X9_contacts [.ref 800000, .int x, .int y, .int z] Z (QVo P Z F' b) (QXo P Z F' es)) (hes : ∀ E, E ∈ es → E = xIO ∨ E = xIA ∨ E = xIS) (hv : ∀ Z' : HS, F' 25 0 = nI 0 → P Z' F' → QV' (some (.int b)) Z') (hx : ∀ (i : Nat) (E : String) (Z' : HS), es[i]? = some E → F' 25 0 = nI (i + 1) → P Z' F' → QV' (some (.int (xc E))) Z') : Tw Γ M_L_act [.ref 800000, .int (nI 29), .int x, .int y, .int z] Z QV' noX := by
  refine Tw_of' rfl rfl ?_
  show G Γ M_L_act (rm M_L_act) (Vt Γ M_L_act QV' noX) (0, 0) 0 [some (.ref 800000), some (.int (nI 29)), some (.int x), some (.int y), some (.int z), none] [] Z
  refine G_iload_n (pc := 0) dL_act_0 rfl ?_
  refine G_if_neN (pc := 1) (tgt := 12) (by omega) dL_act_1 (by decide) (fun _ => ?_) (fun h => absurd h (by decide))
  refine G_iload_n (pc := 12) dL_act_12 rfl ?_
  refine G_iconst (pc := 13) (v := nI 1) dL_act_13 (by first | rfl | decide) ?_
  refine G_icmp_neN (pc := 14) (tgt := 26) (by omega) (by omega) dL_act_14 (by decide) (fun _ => ?_) (fun h => absurd h (by decide))
  refine G_iload_n (pc := 26) dL_act_26 rfl ?_
  refine G_iconst (pc := 27) (v := nI 2) dL_act_27 (by first | rfl | decide) ?_
  refine G_icmp_neN (pc := 28) (tgt := 39) (by omega) (by omega) dL_act_28 (by decide) (fun _ => ?_) (fun h => absurd h (by decide))
  refine G_iload_n (pc := 39) dL_act_39 rfl ?_
  refine G_iconst (pc := 40) (v := nI 3) dL_act_40 (by first | rfl | decide) ?_
  refine G_icmp_neN (pc := 41) (tgt := 52) (by omega) (by omega) dL_act_41 (by decide) (fun _ => ?_) (fun h => absurd h (by decide))
  refine G_iload_n (pc := 52) dL_act_52 rfl ?_
  refine G_iconst (pc := 53) (v := nI 4) dL_act_53 (by first | rfl | decide) ?_
  refine G_icmp_neN (pc := 54) (tgt := 65) (by omega) (by omega) dL_act_54 (by decide) (fun _ => ?_) (fun h => absurd h (by decide))
  refine G_iload_n (pc := 65) dL_act_65 rfl ?_
  refine G_iconst (pc := 66) (v := nI 5) dL_act_66 (by first | rfl | decide) ?_
  refine G_icmp_neN (pc := 67) (tgt := 78) (by omega) (by omega) dL_act_67 (by decide) (fun _ => ?_) (fun h => absurd h (by decide))
  refine G_iload_n (pc := 78) dL_act_78 rfl ?_
  refine G_bipush (pc := 79) (v := nI 6) dL_act_79 (by first | rfl | decide) ?_
  refine G_icmp_neN (pc := 81) (tgt := 96) (by omega) (by omega) dL_act_81 (by decide) (fun _ => ?_) (fun h => absurd h (by decide))
  refine G_iload_n (pc := 96) dL_act_96 rfl ?_
  refine G_bipush (pc := 97) (v := nI 7) dL_act_97 (by first | rfl | decide) ?_
  refine G_icmp_neN (pc := 99) (tgt := 114) (by omega) (by omega) dL_act_99 (by decide) (fun _ => ?_) (fun h => absurd h (by decide))
  refine G_iload_n (pc := 114) dL_act_114 rfl ?_
  refine G_bipush (pc := 115) (v := nI 8) dL_act_115 (by first | rfl | decide) ?_
  refine G_icmp_neN (pc := 117) (tgt := 129) (by omega) (by omega) dL_act_117 (by decide) (fun _ => ?_) (fun h => absurd h (by decide))
  refine G_iload_n (pc := 129) dL_act_129 rfl ?_
  refine G_bipush (pc := 130) (v := nI 9) dL_act_130 (by first | rfl | decide) ?_
  refine G_icmp_neN (pc := 132) (tgt := 146) (by omega) (by omega) dL_act_132 (by decide) (fun _ => ?_) (fun h => absurd h (by decide))
  refine G_iload_n (pc := 146) dL_act_146 rfl ?_
  refine G_bipush (pc := 147) (v := nI 10) dL_act_147 (by first | rfl | decide) ?_
  refine G_icmp_neN (pc := 149) (tgt := 161) (by omega) (by omega) dL_act_149 (by decide) (fun _ => ?_) (fun h => absurd h (by decide))
  refine G_iload_n (pc := 161) dL_act_161 rfl ?_
  refine G_bipush (pc := 162) (v := nI 11) dL_act_162 (by first | rfl | decide) ?_
  refine G_icmp_neN (pc := 164) (tgt := 175) (by omega) (by omega) dL_act_164 (by decide) (fun _ => ?_) (fun h => absurd h (by decide))
  refine G_iload_n (pc := 175) dL_act_175 rfl ?_
  refine G_bipush (pc := 176) (v := nI 12) dL_act_176 (by first | rfl | decide) ?_
  refine G_icmp_neN (pc := 178) (tgt := 189) (by omega) (by omega) dL_act_178 (by decide) (fun _ => ?_) (fun h => absurd h (by decide))
  refine G_iload_n (pc := 189) dL_act_189 rfl ?_
  refine G_bipush (pc := 190) (v := nI 13) dL_act_190 (by first | rfl | decide) ?_
  refine G_icmp_neN (pc := 192) (tgt := 211) (by omega) (by omega) dL_act_192 (by decide) (fun _ => ?_) (fun h => absurd h (by decide))
  refine G_iload_n (pc := 211) dL_act_211 rfl ?_
  refine G_bipush (pc := 212) (v := nI 14) dL_act_212 (by first | rfl | decide) ?_
  refine G_icmp_neN (pc := 214) (tgt := 225) (by omega) (by omega) dL_act_214 (by decide) (fun _ => ?_) (fun h => absurd h (by decide))
  refine G_iload_n (pc := 225) dL_act_225 rfl ?_
  refine G_bipush (pc := 226) (v := nI 15) dL_act_226 (by first | rfl | decide) ?_
  refine G_icmp_neN (pc := 228) (tgt := 239) (by omega) (by omega) dL_act_228 (by decide) (fun _ => ?_) (fun h => absurd h (by decide))
  refine G_iload_n (pc := 239) dL_act_239 rfl ?_
  refine G_bipush (pc := 240) (v := nI 16) dL_act_240 (by first | rfl | decide) ?_
  refine G_icmp_neN (pc := 242) (tgt := 253) (by omega) (by omega) dL_act_242 (by decide) (fun _ => ?_) (fun h => absurd h (by decide))
  refine G_iload_n (pc := 253) dL_act_253 rfl ?_
  refine G_bipush (pc := 254) (v := nI 17) dL_act_254 (by first | rfl | decide) ?_
  refine G_icmp_neN (pc := 256) (tgt := 267) (by omega) (by omega) dL_act_256 (by decide) (fun _ => ?_) (fun h => absurd h (by decide))
  refine G_iload_n (pc := 267) dL_act_267 rfl ?_
  refine G_bipush (pc := 268) (v := nI 18) dL_act_268 (by first | rfl | decide) ?_
  refine G_icmp_neN (pc := 270) (tgt := 281) (by omega) (by omega) dL_act_270 (by decide) (fun _ => ?_) (fun h => absurd h (by decide))
  refine G_iload_n (pc := 281) dL_act_281 rfl ?_
  refine G_bipush (pc := 282) (v := nI 19) dL_act_282 (by first | rfl | decide) ?_
  refine G_icmp_neN (pc := 284) (tgt := 295) (by omega) (by omega) dL_act_284 (by decide) (fun _ => ?_) (fun h => absurd h (by decide))
  refine G_iload_n (pc := 295) dL_act_295 rfl ?_
  refine G_bipush (pc := 296) (v := nI 20) dL_act_296 (by first | rfl | decide) ?_
  refine G_icmp_neN (pc := 298) (tgt := 309) (by omega) (by omega) dL_act_298 (by decide) (fun _ => ?_) (fun h => absurd h (by decide))
  refine G_iload_n (pc := 309) dL_act_309 rfl ?_
  refine G_bipush (pc := 310) (v := nI 21) dL_act_310 (by first | rfl | decide) ?_
  refine G_icmp_neN (pc := 312) (tgt := 323) (by omega) (by omega) dL_act_312 (by decide) (fun _ => ?_) (fun h => absurd h (by decide))
  refine G_iload_n (pc := 323) dL_act_323 rfl ?_
  refine G_bipush (pc := 324) (v := nI 22) dL_act_324 (by first | rfl | decide) ?_
  refine G_icmp_neN (pc := 326) (tgt := 337) (by omega) (by omega) dL_act_326 (by decide) (fun _ => ?_) (fun h => absurd h (by decide))
  refine G_iload_n (pc := 337) dL_act_337 rfl ?_
  refine G_bipush (pc := 338) (v := nI 23) dL_act_338 (by first | rfl | decide) ?_
  refine G_icmp_neN (pc := 340) (tgt := 351) (by omega) (by omega) dL_act_340 (by decide) (fun _ => ?_) (fun h => absurd h (by decide))
  refine G_iload_n (pc := 351) dL_act_351 rfl ?_
  refine G_bipush (pc := 352) (v := nI 24) dL_act_352 (by first | rfl | decide) ?_
  refine G_icmp_neN (pc := 354) (tgt := 373) (by omega) (by omega) dL_act_354 (by decide) (fun _ => ?_) (fun h => absurd h (by decide))
  refine G_iload_n (pc := 373) dL_act_373 rfl ?_
  refine G_bipush (pc := 374) (v := nI 25) dL_act_374 (by first | rfl | decide) ?_
  refine G_icmp_neN (pc := 376) (tgt := 387) (by omega) (by omega) dL_act_376 (by decide) (fun _ => ?_) (fun h => absurd h (by decide))
  refine G_iload_n (pc := 387) dL_act_387 rfl ?_
  refine G_bipush (pc := 388) (v := nI 26) dL_act_388 (by first | rfl | decide) ?_
  refine G_icmp_neN (pc := 390) (tgt := 411) (by omega) (by omega) dL_act_390 (by decide) (fun _ => ?_) (fun h => absurd h (by decide))
  refine G_iload_n (pc := 411) dL_act_411 rfl ?_
  refine G_bipush (pc := 412) (v := nI 27) dL_act_412 (by first | rfl | decide) ?_
  refine G_icmp_neN (pc := 414) (tgt := 425) (by omega) (by omega) dL_act_414 (by decide) (fun _ => ?_) (fun h => absurd h (by decide))
  refine G_iload_n (pc := 425) dL_act_425 rfl ?_
  refine G_bipush (pc := 426) (v := nI 28) dL_act_426 (by first | rfl | decide) ?_
  refine G_icmp_neN (pc := 428) (tgt := 440) (by omega) (by omega) dL_act_428 (by decide) (fun _ => ?_) (fun h => absurd h (by decide))
  refine G_iload_n (pc := 440) dL_act_440 rfl ?_
  refine G_bipush (pc := 441) (v := nI 29) dL_act_441 (by first | rfl | decide) ?_
  refine G_icmp_neN (pc := 443) (tgt := 457) (by omega) (by omega) dL_act_443 (by decide) (fun h => absurd h (by decide)) (fun _ => ?_)
  refine G_aload_n (pc := 446) dL_act_446 rfl ?_
  refine G_iload_n (pc := 447) dL_act_447 rfl ?_
  refine G_iload_n (pc := 448) dL_act_448 rfl ?_
  refine G_iload (pc := 449) dL_act_449 rfl ?_
  refine K_V3 (pc := 451) (k' := (3, 18)) mok_X9_contacts lk_L_99 (sh_k hH) rfl rfl rfl (aok0 rfl) dL_act_451 (hop) rfl (fun v1 Y1 q1 => ?_) (fun E1 Y1 q1 => ?_)
  · obtain ⟨e1, e2, e3⟩ := q1; subst e1
    show G _ _ _ _ _ _ _ (_ :: _) _
    refine G_goto (pc := 454) (tgt := 494) dL_act_454 (by decide) ?_
    refine G_iret (pc := 494) VZ.x dL_act_494 rfl ⟨by decide, by decide⟩ ?_
    exact hv _ e2 e3
  · obtain ⟨i9, h1, h2, h3⟩ := q1
    rcases hes E1 (List.mem_of_getElem? h1) with rfl | rfl | rfl
    · refine GX_catch [] _ _ rfl (fun z hz => absurd hz List.not_mem_nil) rfl (by decide) cl_L_111 ct_IO (hp := 495) (i := 5) (len := 2) rfl (Or.inr ⟨rfl, dL_act_495⟩) (by decide) ?_
      refine G_bipush (pc := 497) (v := -71) dL_act_497 (by first | rfl | decide) ?_
      refine G_iret (pc := 499) VZ.x dL_act_499 rfl ⟨by decide, by decide⟩ ?_
      have e := hx i9 _ _ h1 h2 h3
      rw [xc_IO] at e
      exact e
    · refine GX_catch [_] _ _ rfl (fun z hz => by rw [List.mem_singleton.mp hz]; exact Or.inr ⟨by decide, _, cl_L_111, by decide⟩) rfl (by decide) cl_L_113 ct_IA (hp := 500) (i := 5) (len := 2) rfl (Or.inr ⟨rfl, dL_act_500⟩) (by decide) ?_
      refine G_bipush (pc := 502) (v := -72) dL_act_502 (by first | rfl | decide) ?_
      refine G_iret (pc := 504) VZ.x dL_act_504 rfl ⟨by decide, by decide⟩ ?_
      have e := hx i9 _ _ h1 h2 h3
      rw [xc_IA] at e
      exact e
    · refine GX_catch [_, _] _ _ rfl (fun z hz => by rcases List.mem_cons.mp hz with rfl | hz; exact Or.inr ⟨by decide, _, cl_L_111, by decide⟩; rw [List.mem_singleton.mp hz]; exact Or.inr ⟨by decide, _, cl_L_113, by decide⟩) rfl (by decide) cl_L_115 ct_IS (hp := 505) (i := 5) (len := 2) rfl (Or.inr ⟨rfl, dL_act_505⟩) (by decide) ?_
      refine G_bipush (pc := 507) (v := -73) dL_act_507 (by first | rfl | decide) ?_
      refine G_iret (pc := 509) VZ.x dL_act_509 rfl ⟨by decide, by decide⟩ ?_
      have e := hx i9 _ _ h1 h2 h3
      rw [xc_IS] at e
      exact e
theorem act_30 {Γ : GTy} {Z : HS} {P : HS → FT → Prop} {F' : FT} {x y z b : Int32} {es : List String} {QV' : Option Value → HS → Prop} (hH : SH Z) (hop : Tt Γ M_X9_contactsByPairs [.ref 800000, .int x, .int y, .int z] Z (QVo P Z F' b) (QXo P Z F' es)) (hes : ∀ E, E ∈ es → E = xIO ∨ E = xIA ∨ E = xIS) (hv : ∀ Z' : HS, F' 25 0 = nI 0 → P Z' F' → QV' (some (.int b)) Z') (hx : ∀ (i : Nat) (E : String) (Z' : HS), es[i]? = some E → F' 25 0 = nI (i + 1) → P Z' F' → QV' (some (.int (xc E))) Z') : Tw Γ M_L_act [.ref 800000, .int (nI 30), .int x, .int y, .int z] Z QV' noX := by
  refine Tw_of' rfl rfl ?_
  show G Γ M_L_act (rm M_L_act) (Vt Γ M_L_act QV' noX) (0, 0) 0 [some (.ref 800000), some (.int (nI 30)), some (.int x), some (.int y), some (.int z), none] [] Z
  refine G_iload_n (pc := 0) dL_act_0 rfl ?_
  refine G_if_neN (pc := 1) (tgt := 12) (by omega) dL_act_1 (by decide) (fun _ => ?_) (fun h => absurd h (by decide))
  refine G_iload_n (pc := 12) dL_act_12 rfl ?_
  refine G_iconst (pc := 13) (v := nI 1) dL_act_13 (by first | rfl | decide) ?_
  refine G_icmp_neN (pc := 14) (tgt := 26) (by omega) (by omega) dL_act_14 (by decide) (fun _ => ?_) (fun h => absurd h (by decide))
  refine G_iload_n (pc := 26) dL_act_26 rfl ?_
  refine G_iconst (pc := 27) (v := nI 2) dL_act_27 (by first | rfl | decide) ?_
  refine G_icmp_neN (pc := 28) (tgt := 39) (by omega) (by omega) dL_act_28 (by decide) (fun _ => ?_) (fun h => absurd h (by decide))
  refine G_iload_n (pc := 39) dL_act_39 rfl ?_
  refine G_iconst (pc := 40) (v := nI 3) dL_act_40 (by first | rfl | decide) ?_
  refine G_icmp_neN (pc := 41) (tgt := 52) (by omega) (by omega) dL_act_41 (by decide) (fun _ => ?_) (fun h => absurd h (by decide))
  refine G_iload_n (pc := 52) dL_act_52 rfl ?_
  refine G_iconst (pc := 53) (v := nI 4) dL_act_53 (by first | rfl | decide) ?_
  refine G_icmp_neN (pc := 54) (tgt := 65) (by omega) (by omega) dL_act_54 (by decide) (fun _ => ?_) (fun h => absurd h (by decide))
  refine G_iload_n (pc := 65) dL_act_65 rfl ?_
  refine G_iconst (pc := 66) (v := nI 5) dL_act_66 (by first | rfl | decide) ?_
  refine G_icmp_neN (pc := 67) (tgt := 78) (by omega) (by omega) dL_act_67 (by decide) (fun _ => ?_) (fun h => absurd h (by decide))
  refine G_iload_n (pc := 78) dL_act_78 rfl ?_
  refine G_bipush (pc := 79) (v := nI 6) dL_act_79 (by first | rfl | decide) ?_
  refine G_icmp_neN (pc := 81) (tgt := 96) (by omega) (by omega) dL_act_81 (by decide) (fun _ => ?_) (fun h => absurd h (by decide))
  refine G_iload_n (pc := 96) dL_act_96 rfl ?_
  refine G_bipush (pc := 97) (v := nI 7) dL_act_97 (by first | rfl | decide) ?_
  refine G_icmp_neN (pc := 99) (tgt := 114) (by omega) (by omega) dL_act_99 (by decide) (fun _ => ?_) (fun h => absurd h (by decide))
  refine G_iload_n (pc := 114) dL_act_114 rfl ?_
  refine G_bipush (pc := 115) (v := nI 8) dL_act_115 (by first | rfl | decide) ?_
  refine G_icmp_neN (pc := 117) (tgt := 129) (by omega) (by omega) dL_act_117 (by decide) (fun _ => ?_) (fun h => absurd h (by decide))
  refine G_iload_n (pc := 129) dL_act_129 rfl ?_
  refine G_bipush (pc := 130) (v := nI 9) dL_act_130 (by first | rfl | decide) ?_
  refine G_icmp_neN (pc := 132) (tgt := 146) (by omega) (by omega) dL_act_132 (by decide) (fun _ => ?_) (fun h => absurd h (by decide))
  refine G_iload_n (pc := 146) dL_act_146 rfl ?_
  refine G_bipush (pc := 147) (v := nI 10) dL_act_147 (by first | rfl | decide) ?_
  refine G_icmp_neN (pc := 149) (tgt := 161) (by omega) (by omega) dL_act_149 (by decide) (fun _ => ?_) (fun h => absurd h (by decide))
  refine G_iload_n (pc := 161) dL_act_161 rfl ?_
  refine G_bipush (pc := 162) (v := nI 11) dL_act_162 (by first | rfl | decide) ?_
  refine G_icmp_neN (pc := 164) (tgt := 175) (by omega) (by omega) dL_act_164 (by decide) (fun _ => ?_) (fun h => absurd h (by decide))
  refine G_iload_n (pc := 175) dL_act_175 rfl ?_
  refine G_bipush (pc := 176) (v := nI 12) dL_act_176 (by first | rfl | decide) ?_
  refine G_icmp_neN (pc := 178) (tgt := 189) (by omega) (by omega) dL_act_178 (by decide) (fun _ => ?_) (fun h => absurd h (by decide))
  refine G_iload_n (pc := 189) dL_act_189 rfl ?_
  refine G_bipush (pc := 190) (v := nI 13) dL_act_190 (by first | rfl | decide) ?_
  refine G_icmp_neN (pc := 192) (tgt := 211) (by omega) (by omega) dL_act_192 (by decide) (fun _ => ?_) (fun h => absurd h (by decide))
  refine G_iload_n (pc := 211) dL_act_211 rfl ?_
  refine G_bipush (pc := 212) (v := nI 14) dL_act_212 (by first | rfl | decide) ?_
  refine G_icmp_neN (pc := 214) (tgt := 225) (by omega) (by omega) dL_act_214 (by decide) (fun _ => ?_) (fun h => absurd h (by decide))
  refine G_iload_n (pc := 225) dL_act_225 rfl ?_
  refine G_bipush (pc := 226) (v := nI 15) dL_act_226 (by first | rfl | decide) ?_
  refine G_icmp_neN (pc := 228) (tgt := 239) (by omega) (by omega) dL_act_228 (by decide) (fun _ => ?_) (fun h => absurd h (by decide))
  refine G_iload_n (pc := 239) dL_act_239 rfl ?_
  refine G_bipush (pc := 240) (v := nI 16) dL_act_240 (by first | rfl | decide) ?_
  refine G_icmp_neN (pc := 242) (tgt := 253) (by omega) (by omega) dL_act_242 (by decide) (fun _ => ?_) (fun h => absurd h (by decide))
  refine G_iload_n (pc := 253) dL_act_253 rfl ?_
  refine G_bipush (pc := 254) (v := nI 17) dL_act_254 (by first | rfl | decide) ?_
  refine G_icmp_neN (pc := 256) (tgt := 267) (by omega) (by omega) dL_act_256 (by decide) (fun _ => ?_) (fun h => absurd h (by decide))
  refine G_iload_n (pc := 267) dL_act_267 rfl ?_
  refine G_bipush (pc := 268) (v := nI 18) dL_act_268 (by first | rfl | decide) ?_
  refine G_icmp_neN (pc := 270) (tgt := 281) (by omega) (by omega) dL_act_270 (by decide) (fun _ => ?_) (fun h => absurd h (by decide))
  refine G_iload_n (pc := 281) dL_act_281 rfl ?_
  refine G_bipush (pc := 282) (v := nI 19) dL_act_282 (by first | rfl | decide) ?_
  refine G_icmp_neN (pc := 284) (tgt := 295) (by omega) (by omega) dL_act_284 (by decide) (fun _ => ?_) (fun h => absurd h (by decide))
  refine G_iload_n (pc := 295) dL_act_295 rfl ?_
  refine G_bipush (pc := 296) (v := nI 20) dL_act_296 (by first | rfl | decide) ?_
  refine G_icmp_neN (pc := 298) (tgt := 309) (by omega) (by omega) dL_act_298 (by decide) (fun _ => ?_) (fun h => absurd h (by decide))
  refine G_iload_n (pc := 309) dL_act_309 rfl ?_
  refine G_bipush (pc := 310) (v := nI 21) dL_act_310 (by first | rfl | decide) ?_
  refine G_icmp_neN (pc := 312) (tgt := 323) (by omega) (by omega) dL_act_312 (by decide) (fun _ => ?_) (fun h => absurd h (by decide))
  refine G_iload_n (pc := 323) dL_act_323 rfl ?_
  refine G_bipush (pc := 324) (v := nI 22) dL_act_324 (by first | rfl | decide) ?_
  refine G_icmp_neN (pc := 326) (tgt := 337) (by omega) (by omega) dL_act_326 (by decide) (fun _ => ?_) (fun h => absurd h (by decide))
  refine G_iload_n (pc := 337) dL_act_337 rfl ?_
  refine G_bipush (pc := 338) (v := nI 23) dL_act_338 (by first | rfl | decide) ?_
  refine G_icmp_neN (pc := 340) (tgt := 351) (by omega) (by omega) dL_act_340 (by decide) (fun _ => ?_) (fun h => absurd h (by decide))
  refine G_iload_n (pc := 351) dL_act_351 rfl ?_
  refine G_bipush (pc := 352) (v := nI 24) dL_act_352 (by first | rfl | decide) ?_
  refine G_icmp_neN (pc := 354) (tgt := 373) (by omega) (by omega) dL_act_354 (by decide) (fun _ => ?_) (fun h => absurd h (by decide))
  refine G_iload_n (pc := 373) dL_act_373 rfl ?_
  refine G_bipush (pc := 374) (v := nI 25) dL_act_374 (by first | rfl | decide) ?_
  refine G_icmp_neN (pc := 376) (tgt := 387) (by omega) (by omega) dL_act_376 (by decide) (fun _ => ?_) (fun h => absurd h (by decide))
  refine G_iload_n (pc := 387) dL_act_387 rfl ?_
  refine G_bipush (pc := 388) (v := nI 26) dL_act_388 (by first | rfl | decide) ?_
  refine G_icmp_neN (pc := 390) (tgt := 411) (by omega) (by omega) dL_act_390 (by decide) (fun _ => ?_) (fun h => absurd h (by decide))
  refine G_iload_n (pc := 411) dL_act_411 rfl ?_
  refine G_bipush (pc := 412) (v := nI 27) dL_act_412 (by first | rfl | decide) ?_
  refine G_icmp_neN (pc := 414) (tgt := 425) (by omega) (by omega) dL_act_414 (by decide) (fun _ => ?_) (fun h => absurd h (by decide))
  refine G_iload_n (pc := 425) dL_act_425 rfl ?_
  refine G_bipush (pc := 426) (v := nI 28) dL_act_426 (by first | rfl | decide) ?_
  refine G_icmp_neN (pc := 428) (tgt := 440) (by omega) (by omega) dL_act_428 (by decide) (fun _ => ?_) (fun h => absurd h (by decide))
  refine G_iload_n (pc := 440) dL_act_440 rfl ?_
  refine G_bipush (pc := 441) (v := nI 29) dL_act_441 (by first | rfl | decide) ?_
  refine G_icmp_neN (pc := 443) (tgt := 457) (by omega) (by omega) dL_act_443 (by decide) (fun _ => ?_) (fun h => absurd h (by decide))
  refine G_iload_n (pc := 457) dL_act_457 rfl ?_
  refine G_bipush (pc := 458) (v := nI 30) dL_act_458 (by first | rfl | decide) ?_
  refine G_icmp_neN (pc := 460) (tgt := 474) (by omega) (by omega) dL_act_460 (by decide) (fun h => absurd h (by decide)) (fun _ => ?_)
  refine G_aload_n (pc := 463) dL_act_463 rfl ?_
  refine G_iload_n (pc := 464) dL_act_464 rfl ?_
  refine G_iload_n (pc := 465) dL_act_465 rfl ?_
  refine G_iload (pc := 466) dL_act_466 rfl ?_
  refine K_V3 (pc := 468) (k' := (3, 18)) mok_X9_contactsByPairs lk_L_102 (sh_k hH) rfl rfl rfl (aok0 rfl) dL_act_468 (hop) rfl (fun v1 Y1 q1 => ?_) (fun E1 Y1 q1 => ?_)
  · obtain ⟨e1, e2, e3⟩ := q1; subst e1
    show G _ _ _ _ _ _ _ (_ :: _) _
    refine G_goto (pc := 471) (tgt := 494) dL_act_471 (by decide) ?_
    refine G_iret (pc := 494) VZ.x dL_act_494 rfl ⟨by decide, by decide⟩ ?_
    exact hv _ e2 e3
  · obtain ⟨i9, h1, h2, h3⟩ := q1
    rcases hes E1 (List.mem_of_getElem? h1) with rfl | rfl | rfl
    · refine GX_catch [] _ _ rfl (fun z hz => absurd hz List.not_mem_nil) rfl (by decide) cl_L_111 ct_IO (hp := 495) (i := 5) (len := 2) rfl (Or.inr ⟨rfl, dL_act_495⟩) (by decide) ?_
      refine G_bipush (pc := 497) (v := -71) dL_act_497 (by first | rfl | decide) ?_
      refine G_iret (pc := 499) VZ.x dL_act_499 rfl ⟨by decide, by decide⟩ ?_
      have e := hx i9 _ _ h1 h2 h3
      rw [xc_IO] at e
      exact e
    · refine GX_catch [_] _ _ rfl (fun z hz => by rw [List.mem_singleton.mp hz]; exact Or.inr ⟨by decide, _, cl_L_111, by decide⟩) rfl (by decide) cl_L_113 ct_IA (hp := 500) (i := 5) (len := 2) rfl (Or.inr ⟨rfl, dL_act_500⟩) (by decide) ?_
      refine G_bipush (pc := 502) (v := -72) dL_act_502 (by first | rfl | decide) ?_
      refine G_iret (pc := 504) VZ.x dL_act_504 rfl ⟨by decide, by decide⟩ ?_
      have e := hx i9 _ _ h1 h2 h3
      rw [xc_IA] at e
      exact e
    · refine GX_catch [_, _] _ _ rfl (fun z hz => by rcases List.mem_cons.mp hz with rfl | hz; exact Or.inr ⟨by decide, _, cl_L_111, by decide⟩; rw [List.mem_singleton.mp hz]; exact Or.inr ⟨by decide, _, cl_L_113, by decide⟩) rfl (by decide) cl_L_115 ct_IS (hp := 505) (i := 5) (len := 2) rfl (Or.inr ⟨rfl, dL_act_505⟩) (by decide) ?_
      refine G_bipush (pc := 507) (v := -73) dL_act_507 (by first | rfl | decide) ?_
      refine G_iret (pc := 509) VZ.x dL_act_509 rfl ⟨by decide, by decide⟩ ?_
      have e := hx i9 _ _ h1 h2 h3
      rw [xc_IS] at e
      exact e
theorem act_31 {Γ : GTy} {Z : HS} {P : HS → FT → Prop} {F' : FT} {x y z b : Int32} {es : List String} {QV' : Option Value → HS → Prop} (hH : SH Z) (hop : Tt Γ M_X9_wear [.ref 800000, .int x] Z (QVo P Z F' b) (QXo P Z F' es)) (hes : ∀ E, E ∈ es → E = xIO ∨ E = xIA ∨ E = xIS) (hv : ∀ Z' : HS, F' 25 0 = nI 0 → P Z' F' → QV' (some (.int b)) Z') (hx : ∀ (i : Nat) (E : String) (Z' : HS), es[i]? = some E → F' 25 0 = nI (i + 1) → P Z' F' → QV' (some (.int (xc E))) Z') : Tw Γ M_L_act [.ref 800000, .int (nI 31), .int x, .int y, .int z] Z QV' noX := by
  refine Tw_of' rfl rfl ?_
  show G Γ M_L_act (rm M_L_act) (Vt Γ M_L_act QV' noX) (0, 0) 0 [some (.ref 800000), some (.int (nI 31)), some (.int x), some (.int y), some (.int z), none] [] Z
  refine G_iload_n (pc := 0) dL_act_0 rfl ?_
  refine G_if_neN (pc := 1) (tgt := 12) (by omega) dL_act_1 (by decide) (fun _ => ?_) (fun h => absurd h (by decide))
  refine G_iload_n (pc := 12) dL_act_12 rfl ?_
  refine G_iconst (pc := 13) (v := nI 1) dL_act_13 (by first | rfl | decide) ?_
  refine G_icmp_neN (pc := 14) (tgt := 26) (by omega) (by omega) dL_act_14 (by decide) (fun _ => ?_) (fun h => absurd h (by decide))
  refine G_iload_n (pc := 26) dL_act_26 rfl ?_
  refine G_iconst (pc := 27) (v := nI 2) dL_act_27 (by first | rfl | decide) ?_
  refine G_icmp_neN (pc := 28) (tgt := 39) (by omega) (by omega) dL_act_28 (by decide) (fun _ => ?_) (fun h => absurd h (by decide))
  refine G_iload_n (pc := 39) dL_act_39 rfl ?_
  refine G_iconst (pc := 40) (v := nI 3) dL_act_40 (by first | rfl | decide) ?_
  refine G_icmp_neN (pc := 41) (tgt := 52) (by omega) (by omega) dL_act_41 (by decide) (fun _ => ?_) (fun h => absurd h (by decide))
  refine G_iload_n (pc := 52) dL_act_52 rfl ?_
  refine G_iconst (pc := 53) (v := nI 4) dL_act_53 (by first | rfl | decide) ?_
  refine G_icmp_neN (pc := 54) (tgt := 65) (by omega) (by omega) dL_act_54 (by decide) (fun _ => ?_) (fun h => absurd h (by decide))
  refine G_iload_n (pc := 65) dL_act_65 rfl ?_
  refine G_iconst (pc := 66) (v := nI 5) dL_act_66 (by first | rfl | decide) ?_
  refine G_icmp_neN (pc := 67) (tgt := 78) (by omega) (by omega) dL_act_67 (by decide) (fun _ => ?_) (fun h => absurd h (by decide))
  refine G_iload_n (pc := 78) dL_act_78 rfl ?_
  refine G_bipush (pc := 79) (v := nI 6) dL_act_79 (by first | rfl | decide) ?_
  refine G_icmp_neN (pc := 81) (tgt := 96) (by omega) (by omega) dL_act_81 (by decide) (fun _ => ?_) (fun h => absurd h (by decide))
  refine G_iload_n (pc := 96) dL_act_96 rfl ?_
  refine G_bipush (pc := 97) (v := nI 7) dL_act_97 (by first | rfl | decide) ?_
  refine G_icmp_neN (pc := 99) (tgt := 114) (by omega) (by omega) dL_act_99 (by decide) (fun _ => ?_) (fun h => absurd h (by decide))
  refine G_iload_n (pc := 114) dL_act_114 rfl ?_
  refine G_bipush (pc := 115) (v := nI 8) dL_act_115 (by first | rfl | decide) ?_
  refine G_icmp_neN (pc := 117) (tgt := 129) (by omega) (by omega) dL_act_117 (by decide) (fun _ => ?_) (fun h => absurd h (by decide))
  refine G_iload_n (pc := 129) dL_act_129 rfl ?_
  refine G_bipush (pc := 130) (v := nI 9) dL_act_130 (by first | rfl | decide) ?_
  refine G_icmp_neN (pc := 132) (tgt := 146) (by omega) (by omega) dL_act_132 (by decide) (fun _ => ?_) (fun h => absurd h (by decide))
  refine G_iload_n (pc := 146) dL_act_146 rfl ?_
  refine G_bipush (pc := 147) (v := nI 10) dL_act_147 (by first | rfl | decide) ?_
  refine G_icmp_neN (pc := 149) (tgt := 161) (by omega) (by omega) dL_act_149 (by decide) (fun _ => ?_) (fun h => absurd h (by decide))
  refine G_iload_n (pc := 161) dL_act_161 rfl ?_
  refine G_bipush (pc := 162) (v := nI 11) dL_act_162 (by first | rfl | decide) ?_
  refine G_icmp_neN (pc := 164) (tgt := 175) (by omega) (by omega) dL_act_164 (by decide) (fun _ => ?_) (fun h => absurd h (by decide))
  refine G_iload_n (pc := 175) dL_act_175 rfl ?_
  refine G_bipush (pc := 176) (v := nI 12) dL_act_176 (by first | rfl | decide) ?_
  refine G_icmp_neN (pc := 178) (tgt := 189) (by omega) (by omega) dL_act_178 (by decide) (fun _ => ?_) (fun h => absurd h (by decide))
  refine G_iload_n (pc := 189) dL_act_189 rfl ?_
  refine G_bipush (pc := 190) (v := nI 13) dL_act_190 (by first | rfl | decide) ?_
  refine G_icmp_neN (pc := 192) (tgt := 211) (by omega) (by omega) dL_act_192 (by decide) (fun _ => ?_) (fun h => absurd h (by decide))
  refine G_iload_n (pc := 211) dL_act_211 rfl ?_
  refine G_bipush (pc := 212) (v := nI 14) dL_act_212 (by first | rfl | decide) ?_
  refine G_icmp_neN (pc := 214) (tgt := 225) (by omega) (by omega) dL_act_214 (by decide) (fun _ => ?_) (fun h => absurd h (by decide))
  refine G_iload_n (pc := 225) dL_act_225 rfl ?_
  refine G_bipush (pc := 226) (v := nI 15) dL_act_226 (by first | rfl | decide) ?_
  refine G_icmp_neN (pc := 228) (tgt := 239) (by omega) (by omega) dL_act_228 (by decide) (fun _ => ?_) (fun h => absurd h (by decide))
  refine G_iload_n (pc := 239) dL_act_239 rfl ?_
  refine G_bipush (pc := 240) (v := nI 16) dL_act_240 (by first | rfl | decide) ?_
  refine G_icmp_neN (pc := 242) (tgt := 253) (by omega) (by omega) dL_act_242 (by decide) (fun _ => ?_) (fun h => absurd h (by decide))
  refine G_iload_n (pc := 253) dL_act_253 rfl ?_
  refine G_bipush (pc := 254) (v := nI 17) dL_act_254 (by first | rfl | decide) ?_
  refine G_icmp_neN (pc := 256) (tgt := 267) (by omega) (by omega) dL_act_256 (by decide) (fun _ => ?_) (fun h => absurd h (by decide))
  refine G_iload_n (pc := 267) dL_act_267 rfl ?_
  refine G_bipush (pc := 268) (v := nI 18) dL_act_268 (by first | rfl | decide) ?_
  refine G_icmp_neN (pc := 270) (tgt := 281) (by omega) (by omega) dL_act_270 (by decide) (fun _ => ?_) (fun h => absurd h (by decide))
  refine G_iload_n (pc := 281) dL_act_281 rfl ?_
  refine G_bipush (pc := 282) (v := nI 19) dL_act_282 (by first | rfl | decide) ?_
  refine G_icmp_neN (pc := 284) (tgt := 295) (by omega) (by omega) dL_act_284 (by decide) (fun _ => ?_) (fun h => absurd h (by decide))
  refine G_iload_n (pc := 295) dL_act_295 rfl ?_
  refine G_bipush (pc := 296) (v := nI 20) dL_act_296 (by first | rfl | decide) ?_
  refine G_icmp_neN (pc := 298) (tgt := 309) (by omega) (by omega) dL_act_298 (by decide) (fun _ => ?_) (fun h => absurd h (by decide))
  refine G_iload_n (pc := 309) dL_act_309 rfl ?_
  refine G_bipush (pc := 310) (v := nI 21) dL_act_310 (by first | rfl | decide) ?_
  refine G_icmp_neN (pc := 312) (tgt := 323) (by omega) (by omega) dL_act_312 (by decide) (fun _ => ?_) (fun h => absurd h (by decide))
  refine G_iload_n (pc := 323) dL_act_323 rfl ?_
  refine G_bipush (pc := 324) (v := nI 22) dL_act_324 (by first | rfl | decide) ?_
  refine G_icmp_neN (pc := 326) (tgt := 337) (by omega) (by omega) dL_act_326 (by decide) (fun _ => ?_) (fun h => absurd h (by decide))
  refine G_iload_n (pc := 337) dL_act_337 rfl ?_
  refine G_bipush (pc := 338) (v := nI 23) dL_act_338 (by first | rfl | decide) ?_
  refine G_icmp_neN (pc := 340) (tgt := 351) (by omega) (by omega) dL_act_340 (by decide) (fun _ => ?_) (fun h => absurd h (by decide))
  refine G_iload_n (pc := 351) dL_act_351 rfl ?_
  refine G_bipush (pc := 352) (v := nI 24) dL_act_352 (by first | rfl | decide) ?_
  refine G_icmp_neN (pc := 354) (tgt := 373) (by omega) (by omega) dL_act_354 (by decide) (fun _ => ?_) (fun h => absurd h (by decide))
  refine G_iload_n (pc := 373) dL_act_373 rfl ?_
  refine G_bipush (pc := 374) (v := nI 25) dL_act_374 (by first | rfl | decide) ?_
  refine G_icmp_neN (pc := 376) (tgt := 387) (by omega) (by omega) dL_act_376 (by decide) (fun _ => ?_) (fun h => absurd h (by decide))
  refine G_iload_n (pc := 387) dL_act_387 rfl ?_
  refine G_bipush (pc := 388) (v := nI 26) dL_act_388 (by first | rfl | decide) ?_
  refine G_icmp_neN (pc := 390) (tgt := 411) (by omega) (by omega) dL_act_390 (by decide) (fun _ => ?_) (fun h => absurd h (by decide))
  refine G_iload_n (pc := 411) dL_act_411 rfl ?_
  refine G_bipush (pc := 412) (v := nI 27) dL_act_412 (by first | rfl | decide) ?_
  refine G_icmp_neN (pc := 414) (tgt := 425) (by omega) (by omega) dL_act_414 (by decide) (fun _ => ?_) (fun h => absurd h (by decide))
  refine G_iload_n (pc := 425) dL_act_425 rfl ?_
  refine G_bipush (pc := 426) (v := nI 28) dL_act_426 (by first | rfl | decide) ?_
  refine G_icmp_neN (pc := 428) (tgt := 440) (by omega) (by omega) dL_act_428 (by decide) (fun _ => ?_) (fun h => absurd h (by decide))
  refine G_iload_n (pc := 440) dL_act_440 rfl ?_
  refine G_bipush (pc := 441) (v := nI 29) dL_act_441 (by first | rfl | decide) ?_
  refine G_icmp_neN (pc := 443) (tgt := 457) (by omega) (by omega) dL_act_443 (by decide) (fun _ => ?_) (fun h => absurd h (by decide))
  refine G_iload_n (pc := 457) dL_act_457 rfl ?_
  refine G_bipush (pc := 458) (v := nI 30) dL_act_458 (by first | rfl | decide) ?_
  refine G_icmp_neN (pc := 460) (tgt := 474) (by omega) (by omega) dL_act_460 (by decide) (fun _ => ?_) (fun h => absurd h (by decide))
  refine G_iload_n (pc := 474) dL_act_474 rfl ?_
  refine G_bipush (pc := 475) (v := nI 31) dL_act_475 (by first | rfl | decide) ?_
  refine G_icmp_neN (pc := 477) (tgt := 488) (by omega) (by omega) dL_act_477 (by decide) (fun h => absurd h (by decide)) (fun _ => ?_)
  refine G_aload_n (pc := 480) dL_act_480 rfl ?_
  refine G_iload_n (pc := 481) dL_act_481 rfl ?_
  refine K_V1 (pc := 482) (k' := (1, 6)) mok_X9_wear lk_L_105 (sh_k hH) rfl rfl rfl (aok0 rfl) dL_act_482 (hop) rfl (fun v1 Y1 q1 => ?_) (fun E1 Y1 q1 => ?_)
  · obtain ⟨e1, e2, e3⟩ := q1; subst e1
    show G _ _ _ _ _ _ _ (_ :: _) _
    refine G_goto (pc := 485) (tgt := 494) dL_act_485 (by decide) ?_
    refine G_iret (pc := 494) VZ.x dL_act_494 rfl ⟨by decide, by decide⟩ ?_
    exact hv _ e2 e3
  · obtain ⟨i9, h1, h2, h3⟩ := q1
    rcases hes E1 (List.mem_of_getElem? h1) with rfl | rfl | rfl
    · refine GX_catch [] _ _ rfl (fun z hz => absurd hz List.not_mem_nil) rfl (by decide) cl_L_111 ct_IO (hp := 495) (i := 5) (len := 2) rfl (Or.inr ⟨rfl, dL_act_495⟩) (by decide) ?_
      refine G_bipush (pc := 497) (v := -71) dL_act_497 (by first | rfl | decide) ?_
      refine G_iret (pc := 499) VZ.x dL_act_499 rfl ⟨by decide, by decide⟩ ?_
      have e := hx i9 _ _ h1 h2 h3
      rw [xc_IO] at e
      exact e
    · refine GX_catch [_] _ _ rfl (fun z hz => by rw [List.mem_singleton.mp hz]; exact Or.inr ⟨by decide, _, cl_L_111, by decide⟩) rfl (by decide) cl_L_113 ct_IA (hp := 500) (i := 5) (len := 2) rfl (Or.inr ⟨rfl, dL_act_500⟩) (by decide) ?_
      refine G_bipush (pc := 502) (v := -72) dL_act_502 (by first | rfl | decide) ?_
      refine G_iret (pc := 504) VZ.x dL_act_504 rfl ⟨by decide, by decide⟩ ?_
      have e := hx i9 _ _ h1 h2 h3
      rw [xc_IA] at e
      exact e
    · refine GX_catch [_, _] _ _ rfl (fun z hz => by rcases List.mem_cons.mp hz with rfl | hz; exact Or.inr ⟨by decide, _, cl_L_111, by decide⟩; rw [List.mem_singleton.mp hz]; exact Or.inr ⟨by decide, _, cl_L_113, by decide⟩) rfl (by decide) cl_L_115 ct_IS (hp := 505) (i := 5) (len := 2) rfl (Or.inr ⟨rfl, dL_act_505⟩) (by decide) ?_
      refine G_bipush (pc := 507) (v := -73) dL_act_507 (by first | rfl | decide) ?_
      refine G_iret (pc := 509) VZ.x dL_act_509 rfl ⟨by decide, by decide⟩ ?_
      have e := hx i9 _ _ h1 h2 h3
      rw [xc_IS] at e
      exact e
theorem act_32 {Γ : GTy} {Z : HS} {P : HS → FT → Prop} {F' : FT} {x y z b : Int32} {es : List String} {QV' : Option Value → HS → Prop} (hH : SH Z) (hop : Tt Γ M_X9_force [.ref 800000, .int x, .int y] Z (QVo P Z F' b) (QXo P Z F' es)) (hes : ∀ E, E ∈ es → E = xIO ∨ E = xIA ∨ E = xIS) (hv : ∀ Z' : HS, F' 25 0 = nI 0 → P Z' F' → QV' (some (.int b)) Z') (hx : ∀ (i : Nat) (E : String) (Z' : HS), es[i]? = some E → F' 25 0 = nI (i + 1) → P Z' F' → QV' (some (.int (xc E))) Z') : Tw Γ M_L_act [.ref 800000, .int (nI 32), .int x, .int y, .int z] Z QV' noX := by
  refine Tw_of' rfl rfl ?_
  show G Γ M_L_act (rm M_L_act) (Vt Γ M_L_act QV' noX) (0, 0) 0 [some (.ref 800000), some (.int (nI 32)), some (.int x), some (.int y), some (.int z), none] [] Z
  refine G_iload_n (pc := 0) dL_act_0 rfl ?_
  refine G_if_neN (pc := 1) (tgt := 12) (by omega) dL_act_1 (by decide) (fun _ => ?_) (fun h => absurd h (by decide))
  refine G_iload_n (pc := 12) dL_act_12 rfl ?_
  refine G_iconst (pc := 13) (v := nI 1) dL_act_13 (by first | rfl | decide) ?_
  refine G_icmp_neN (pc := 14) (tgt := 26) (by omega) (by omega) dL_act_14 (by decide) (fun _ => ?_) (fun h => absurd h (by decide))
  refine G_iload_n (pc := 26) dL_act_26 rfl ?_
  refine G_iconst (pc := 27) (v := nI 2) dL_act_27 (by first | rfl | decide) ?_
  refine G_icmp_neN (pc := 28) (tgt := 39) (by omega) (by omega) dL_act_28 (by decide) (fun _ => ?_) (fun h => absurd h (by decide))
  refine G_iload_n (pc := 39) dL_act_39 rfl ?_
  refine G_iconst (pc := 40) (v := nI 3) dL_act_40 (by first | rfl | decide) ?_
  refine G_icmp_neN (pc := 41) (tgt := 52) (by omega) (by omega) dL_act_41 (by decide) (fun _ => ?_) (fun h => absurd h (by decide))
  refine G_iload_n (pc := 52) dL_act_52 rfl ?_
  refine G_iconst (pc := 53) (v := nI 4) dL_act_53 (by first | rfl | decide) ?_
  refine G_icmp_neN (pc := 54) (tgt := 65) (by omega) (by omega) dL_act_54 (by decide) (fun _ => ?_) (fun h => absurd h (by decide))
  refine G_iload_n (pc := 65) dL_act_65 rfl ?_
  refine G_iconst (pc := 66) (v := nI 5) dL_act_66 (by first | rfl | decide) ?_
  refine G_icmp_neN (pc := 67) (tgt := 78) (by omega) (by omega) dL_act_67 (by decide) (fun _ => ?_) (fun h => absurd h (by decide))
  refine G_iload_n (pc := 78) dL_act_78 rfl ?_
  refine G_bipush (pc := 79) (v := nI 6) dL_act_79 (by first | rfl | decide) ?_
  refine G_icmp_neN (pc := 81) (tgt := 96) (by omega) (by omega) dL_act_81 (by decide) (fun _ => ?_) (fun h => absurd h (by decide))
  refine G_iload_n (pc := 96) dL_act_96 rfl ?_
  refine G_bipush (pc := 97) (v := nI 7) dL_act_97 (by first | rfl | decide) ?_
  refine G_icmp_neN (pc := 99) (tgt := 114) (by omega) (by omega) dL_act_99 (by decide) (fun _ => ?_) (fun h => absurd h (by decide))
  refine G_iload_n (pc := 114) dL_act_114 rfl ?_
  refine G_bipush (pc := 115) (v := nI 8) dL_act_115 (by first | rfl | decide) ?_
  refine G_icmp_neN (pc := 117) (tgt := 129) (by omega) (by omega) dL_act_117 (by decide) (fun _ => ?_) (fun h => absurd h (by decide))
  refine G_iload_n (pc := 129) dL_act_129 rfl ?_
  refine G_bipush (pc := 130) (v := nI 9) dL_act_130 (by first | rfl | decide) ?_
  refine G_icmp_neN (pc := 132) (tgt := 146) (by omega) (by omega) dL_act_132 (by decide) (fun _ => ?_) (fun h => absurd h (by decide))
  refine G_iload_n (pc := 146) dL_act_146 rfl ?_
  refine G_bipush (pc := 147) (v := nI 10) dL_act_147 (by first | rfl | decide) ?_
  refine G_icmp_neN (pc := 149) (tgt := 161) (by omega) (by omega) dL_act_149 (by decide) (fun _ => ?_) (fun h => absurd h (by decide))
  refine G_iload_n (pc := 161) dL_act_161 rfl ?_
  refine G_bipush (pc := 162) (v := nI 11) dL_act_162 (by first | rfl | decide) ?_
  refine G_icmp_neN (pc := 164) (tgt := 175) (by omega) (by omega) dL_act_164 (by decide) (fun _ => ?_) (fun h => absurd h (by decide))
  refine G_iload_n (pc := 175) dL_act_175 rfl ?_
  refine G_bipush (pc := 176) (v := nI 12) dL_act_176 (by first | rfl | decide) ?_
  refine G_icmp_neN (pc := 178) (tgt := 189) (by omega) (by omega) dL_act_178 (by decide) (fun _ => ?_) (fun h => absurd h (by decide))
  refine G_iload_n (pc := 189) dL_act_189 rfl ?_
  refine G_bipush (pc := 190) (v := nI 13) dL_act_190 (by first | rfl | decide) ?_
  refine G_icmp_neN (pc := 192) (tgt := 211) (by omega) (by omega) dL_act_192 (by decide) (fun _ => ?_) (fun h => absurd h (by decide))
  refine G_iload_n (pc := 211) dL_act_211 rfl ?_
  refine G_bipush (pc := 212) (v := nI 14) dL_act_212 (by first | rfl | decide) ?_
  refine G_icmp_neN (pc := 214) (tgt := 225) (by omega) (by omega) dL_act_214 (by decide) (fun _ => ?_) (fun h => absurd h (by decide))
  refine G_iload_n (pc := 225) dL_act_225 rfl ?_
  refine G_bipush (pc := 226) (v := nI 15) dL_act_226 (by first | rfl | decide) ?_
  refine G_icmp_neN (pc := 228) (tgt := 239) (by omega) (by omega) dL_act_228 (by decide) (fun _ => ?_) (fun h => absurd h (by decide))
  refine G_iload_n (pc := 239) dL_act_239 rfl ?_
  refine G_bipush (pc := 240) (v := nI 16) dL_act_240 (by first | rfl | decide) ?_
  refine G_icmp_neN (pc := 242) (tgt := 253) (by omega) (by omega) dL_act_242 (by decide) (fun _ => ?_) (fun h => absurd h (by decide))
  refine G_iload_n (pc := 253) dL_act_253 rfl ?_
  refine G_bipush (pc := 254) (v := nI 17) dL_act_254 (by first | rfl | decide) ?_
  refine G_icmp_neN (pc := 256) (tgt := 267) (by omega) (by omega) dL_act_256 (by decide) (fun _ => ?_) (fun h => absurd h (by decide))
  refine G_iload_n (pc := 267) dL_act_267 rfl ?_
  refine G_bipush (pc := 268) (v := nI 18) dL_act_268 (by first | rfl | decide) ?_
  refine G_icmp_neN (pc := 270) (tgt := 281) (by omega) (by omega) dL_act_270 (by decide) (fun _ => ?_) (fun h => absurd h (by decide))
  refine G_iload_n (pc := 281) dL_act_281 rfl ?_
  refine G_bipush (pc := 282) (v := nI 19) dL_act_282 (by first | rfl | decide) ?_
  refine G_icmp_neN (pc := 284) (tgt := 295) (by omega) (by omega) dL_act_284 (by decide) (fun _ => ?_) (fun h => absurd h (by decide))
  refine G_iload_n (pc := 295) dL_act_295 rfl ?_
  refine G_bipush (pc := 296) (v := nI 20) dL_act_296 (by first | rfl | decide) ?_
  refine G_icmp_neN (pc := 298) (tgt := 309) (by omega) (by omega) dL_act_298 (by decide) (fun _ => ?_) (fun h => absurd h (by decide))
  refine G_iload_n (pc := 309) dL_act_309 rfl ?_
  refine G_bipush (pc := 310) (v := nI 21) dL_act_310 (by first | rfl | decide) ?_
  refine G_icmp_neN (pc := 312) (tgt := 323) (by omega) (by omega) dL_act_312 (by decide) (fun _ => ?_) (fun h => absurd h (by decide))
  refine G_iload_n (pc := 323) dL_act_323 rfl ?_
  refine G_bipush (pc := 324) (v := nI 22) dL_act_324 (by first | rfl | decide) ?_
  refine G_icmp_neN (pc := 326) (tgt := 337) (by omega) (by omega) dL_act_326 (by decide) (fun _ => ?_) (fun h => absurd h (by decide))
  refine G_iload_n (pc := 337) dL_act_337 rfl ?_
  refine G_bipush (pc := 338) (v := nI 23) dL_act_338 (by first | rfl | decide) ?_
  refine G_icmp_neN (pc := 340) (tgt := 351) (by omega) (by omega) dL_act_340 (by decide) (fun _ => ?_) (fun h => absurd h (by decide))
  refine G_iload_n (pc := 351) dL_act_351 rfl ?_
  refine G_bipush (pc := 352) (v := nI 24) dL_act_352 (by first | rfl | decide) ?_
  refine G_icmp_neN (pc := 354) (tgt := 373) (by omega) (by omega) dL_act_354 (by decide) (fun _ => ?_) (fun h => absurd h (by decide))
  refine G_iload_n (pc := 373) dL_act_373 rfl ?_
  refine G_bipush (pc := 374) (v := nI 25) dL_act_374 (by first | rfl | decide) ?_
  refine G_icmp_neN (pc := 376) (tgt := 387) (by omega) (by omega) dL_act_376 (by decide) (fun _ => ?_) (fun h => absurd h (by decide))
  refine G_iload_n (pc := 387) dL_act_387 rfl ?_
  refine G_bipush (pc := 388) (v := nI 26) dL_act_388 (by first | rfl | decide) ?_
  refine G_icmp_neN (pc := 390) (tgt := 411) (by omega) (by omega) dL_act_390 (by decide) (fun _ => ?_) (fun h => absurd h (by decide))
  refine G_iload_n (pc := 411) dL_act_411 rfl ?_
  refine G_bipush (pc := 412) (v := nI 27) dL_act_412 (by first | rfl | decide) ?_
  refine G_icmp_neN (pc := 414) (tgt := 425) (by omega) (by omega) dL_act_414 (by decide) (fun _ => ?_) (fun h => absurd h (by decide))
  refine G_iload_n (pc := 425) dL_act_425 rfl ?_
  refine G_bipush (pc := 426) (v := nI 28) dL_act_426 (by first | rfl | decide) ?_
  refine G_icmp_neN (pc := 428) (tgt := 440) (by omega) (by omega) dL_act_428 (by decide) (fun _ => ?_) (fun h => absurd h (by decide))
  refine G_iload_n (pc := 440) dL_act_440 rfl ?_
  refine G_bipush (pc := 441) (v := nI 29) dL_act_441 (by first | rfl | decide) ?_
  refine G_icmp_neN (pc := 443) (tgt := 457) (by omega) (by omega) dL_act_443 (by decide) (fun _ => ?_) (fun h => absurd h (by decide))
  refine G_iload_n (pc := 457) dL_act_457 rfl ?_
  refine G_bipush (pc := 458) (v := nI 30) dL_act_458 (by first | rfl | decide) ?_
  refine G_icmp_neN (pc := 460) (tgt := 474) (by omega) (by omega) dL_act_460 (by decide) (fun _ => ?_) (fun h => absurd h (by decide))
  refine G_iload_n (pc := 474) dL_act_474 rfl ?_
  refine G_bipush (pc := 475) (v := nI 31) dL_act_475 (by first | rfl | decide) ?_
  refine G_icmp_neN (pc := 477) (tgt := 488) (by omega) (by omega) dL_act_477 (by decide) (fun _ => ?_) (fun h => absurd h (by decide))
  refine G_aload_n (pc := 488) dL_act_488 rfl ?_
  refine G_iload_n (pc := 489) dL_act_489 rfl ?_
  refine G_iload_n (pc := 490) dL_act_490 rfl ?_
  refine K_V2 (pc := 491) (k' := (2, 12)) mok_X9_force lk_L_108 (sh_k hH) rfl rfl rfl (aok0 rfl) dL_act_491 (hop) rfl (fun v1 Y1 q1 => ?_) (fun E1 Y1 q1 => ?_)
  · obtain ⟨e1, e2, e3⟩ := q1; subst e1
    show G _ _ _ _ _ _ _ (_ :: _) _
    refine G_iret (pc := 494) VZ.x dL_act_494 rfl ⟨by decide, by decide⟩ ?_
    exact hv _ e2 e3
  · obtain ⟨i9, h1, h2, h3⟩ := q1
    rcases hes E1 (List.mem_of_getElem? h1) with rfl | rfl | rfl
    · refine GX_catch [] _ _ rfl (fun z hz => absurd hz List.not_mem_nil) rfl (by decide) cl_L_111 ct_IO (hp := 495) (i := 5) (len := 2) rfl (Or.inr ⟨rfl, dL_act_495⟩) (by decide) ?_
      refine G_bipush (pc := 497) (v := -71) dL_act_497 (by first | rfl | decide) ?_
      refine G_iret (pc := 499) VZ.x dL_act_499 rfl ⟨by decide, by decide⟩ ?_
      have e := hx i9 _ _ h1 h2 h3
      rw [xc_IO] at e
      exact e
    · refine GX_catch [_] _ _ rfl (fun z hz => by rw [List.mem_singleton.mp hz]; exact Or.inr ⟨by decide, _, cl_L_111, by decide⟩) rfl (by decide) cl_L_113 ct_IA (hp := 500) (i := 5) (len := 2) rfl (Or.inr ⟨rfl, dL_act_500⟩) (by decide) ?_
      refine G_bipush (pc := 502) (v := -72) dL_act_502 (by first | rfl | decide) ?_
      refine G_iret (pc := 504) VZ.x dL_act_504 rfl ⟨by decide, by decide⟩ ?_
      have e := hx i9 _ _ h1 h2 h3
      rw [xc_IA] at e
      exact e
    · refine GX_catch [_, _] _ _ rfl (fun z hz => by rcases List.mem_cons.mp hz with rfl | hz; exact Or.inr ⟨by decide, _, cl_L_111, by decide⟩; rw [List.mem_singleton.mp hz]; exact Or.inr ⟨by decide, _, cl_L_113, by decide⟩) rfl (by decide) cl_L_115 ct_IS (hp := 505) (i := 5) (len := 2) rfl (Or.inr ⟨rfl, dL_act_505⟩) (by decide) ?_
      refine G_bipush (pc := 507) (v := -73) dL_act_507 (by first | rfl | decide) ?_
      refine G_iret (pc := 509) VZ.x dL_act_509 rfl ⟨by decide, by decide⟩ ?_
      have e := hx i9 _ _ h1 h2 h3
      rw [xc_IS] at e
      exact e
