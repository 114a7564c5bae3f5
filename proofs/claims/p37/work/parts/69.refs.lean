-- ===== act, where it refuses =====
theorem es_1 : ∀ E, E ∈ [xIO] → E = xIO ∨ E = xIA ∨ E = xIS := fun E h => Or.inl (List.mem_singleton.mp h)
theorem es_2 : ∀ E, E ∈ [xIA] → E = xIO ∨ E = xIA ∨ E = xIS := fun E h => Or.inr (Or.inl (List.mem_singleton.mp h))
theorem es_3 : ∀ E, E ∈ [xIO, xIS] → E = xIO ∨ E = xIA ∨ E = xIS := fun E h => by
  rcases List.mem_cons.mp h with h | h
  · exact Or.inl h
  · exact Or.inr (Or.inr (List.mem_singleton.mp h))
theorem es_4 : ∀ E, E ∈ [xIO, xIA] → E = xIO ∨ E = xIA ∨ E = xIS := fun E h => by
  rcases List.mem_cons.mp h with h | h
  · exact Or.inl h
  · exact Or.inr (Or.inl (List.mem_singleton.mp h))
theorem es_5 : ∀ E, E ∈ [xIO, xIA, xIS] → E = xIO ∨ E = xIA ∨ E = xIS := fun E h => by
  rcases List.mem_cons.mp h with h | h
  · exact Or.inl h
  · rcases List.mem_cons.mp h with h | h
    · exact Or.inr (Or.inl h)
    · exact Or.inr (Or.inr (List.mem_singleton.mp h))
theorem es_6 : ∀ E, E ∈ [xIA, xIS] → E = xIO ∨ E = xIA ∨ E = xIS := fun E h => by
  rcases List.mem_cons.mp h with h | h
  · exact Or.inr (Or.inl h)
  · exact Or.inr (Or.inr (List.mem_singleton.mp h))
theorem ra_v {F : FT} {i : Nat} (hi : i < 100) {q : Prop} (h : thr F (nI (i + 1)) 25 0 = nI 0) : q :=
  absurd ((nI_eq (by omega) (by decide)).mp ((show thr F (nI (i + 1)) 25 0 = nI (i + 1) from u2_e).symm.trans h)) (by omega)
theorem ra_x {F : FT} {i0 : Nat} {E0 : String} {es : List String} (hl : es.length < 100) (h0 : es[i0]? = some E0) {Z Z' : HS} {i : Nat} {E : String} (h1 : es[i]? = some E) (h2 : thr F (nI (i0 + 1)) 25 0 = nI (i + 1)) (h3 : Z' = Z) {v : Int32} (hv : xc E0 = v) : rt (some (.int v)) Z (some (.int (xc E))) Z' := by
  have a0 := (List.getElem?_eq_some_iff.mp h0).1
  have a1 := (List.getElem?_eq_some_iff.mp h1).1
  have e := (nI_eq (by omega) (by omega)).mp ((show thr F (nI (i0 + 1)) 25 0 = nI (i0 + 1) from u2_e).symm.trans h2)
  have e2 : i0 = i := by omega
  subst e2
  have e3 : E0 = E := Option.some.inj (h0.symm.trans h1)
  subst e3
  exact ⟨by rw [hv], h3⟩
section AR
variable {Γ : GTy} {n : Nat} {Z : HS} {F A : FT} {g : GN}
theorem ar_setPriceX (h : CI n Z F g A) {x : Int32} (hx : ¬ (nI 0 ≤ x ∧ x ≤ nI 50)) {y9 z9 : Int32} : Tw Γ M_L_act [.ref 800000, .int (nI 0), .int x, .int y9, .int z9] Z (rt (some (.int (-72))) Z) noX :=
  act_0 h.1 (r_setPriceX h hx) es_2 (fun _ q _ => ra_v (i := 0) (by decide) q) (fun _ _ _ q1 q2 q3 => ra_x (i0 := 0) (by decide) rfl q1 q2 q3 xc_IA)
theorem ar_rentX (h : CI n Z F g A) {x y : Int32} (hx : ¬ (nI 0 ≤ x ∧ x ≤ nI 3)) {y9 : Int32} : Tw Γ M_L_act [.ref 800000, .int (nI 1), .int x, .int y, .int y9] Z (rt (some (.int (-71))) Z) noX :=
  act_1 h.1 (r_rentX h hx) es_3 (fun _ q _ => ra_v (i := 0) (by decide) q) (fun _ _ _ q1 q2 q3 => ra_x (i0 := 0) (by decide) rfl q1 q2 q3 xc_IO)
theorem ar_rentY (h : CI n Z F g A) {t : Nat} {y : Int32} (ht : t < 4) (hy : ¬ (nI 0 ≤ y ∧ y ≤ nI 7)) {y9 : Int32} : Tw Γ M_L_act [.ref 800000, .int (nI 1), .int (nI t), .int y, .int y9] Z (rt (some (.int (-71))) Z) noX :=
  act_1 h.1 (r_rentY h ht hy) es_3 (fun _ q _ => ra_v (i := 0) (by decide) q) (fun _ _ _ q1 q2 q3 => ra_x (i0 := 0) (by decide) rfl q1 q2 q3 xc_IO)
theorem ar_endX (h : CI n Z F g A) {x : Int32} (hx : ¬ (nI 0 ≤ x ∧ x ≤ nI 3)) {y9 z9 : Int32} : Tw Γ M_L_act [.ref 800000, .int (nI 2), .int x, .int y9, .int z9] Z (rt (some (.int (-71))) Z) noX :=
  act_2 h.1 (r_endX h hx) es_3 (fun _ q _ => ra_v (i := 0) (by decide) q) (fun _ _ _ q1 q2 q3 => ra_x (i0 := 0) (by decide) rfl q1 q2 q3 xc_IO)
theorem ar_tearX (h : CI n Z F g A) {x : Int32} (hx : ¬ (nI 0 ≤ x ∧ x ≤ nI 3)) {y9 z9 : Int32} : Tw Γ M_L_act [.ref 800000, .int (nI 3), .int x, .int y9, .int z9] Z (rt (some (.int (-71))) Z) noX :=
  act_3 h.1 (r_tearX h hx) es_3 (fun _ q _ => ra_v (i := 0) (by decide) q) (fun _ _ _ q1 q2 q3 => ra_x (i0 := 0) (by decide) rfl q1 q2 q3 xc_IO)
theorem ar_mendX (h : CI n Z F g A) {x : Int32} (hx : ¬ (nI 0 ≤ x ∧ x ≤ nI 3)) {y9 z9 : Int32} : Tw Γ M_L_act [.ref 800000, .int (nI 4), .int x, .int y9, .int z9] Z (rt (some (.int (-71))) Z) noX :=
  act_4 h.1 (r_mendX h hx) es_3 (fun _ q _ => ra_v (i := 0) (by decide) q) (fun _ _ _ q1 q2 q3 => ra_x (i0 := 0) (by decide) rfl q1 q2 q3 xc_IO)
theorem ar_passX (h : CI n Z F g A) {x : Int32} (hx : ¬ (nI 1 ≤ x ∧ x ≤ nI 200)) {y9 z9 : Int32} : Tw Γ M_L_act [.ref 800000, .int (nI 5), .int x, .int y9, .int z9] Z (rt (some (.int (-72))) Z) noX :=
  act_5 h.1 (r_passX h hx) es_6 (fun _ q _ => ra_v (i := 0) (by decide) q) (fun _ _ _ q1 q2 q3 => ra_x (i0 := 0) (by decide) rfl q1 q2 q3 xc_IA)
theorem ar_beginX_6 (h : CI n Z F g A) {x y y2 : Int32} (hx : ¬ (nI 0 ≤ x ∧ x ≤ nI 3)) : Tw Γ M_L_act [.ref 800000, .int (nI 6), .int x, .int y, .int y2] Z (rt (some (.int (-71))) Z) noX :=
  act_6 h.1 (r_beginX h hx (z := nI 1)) es_5 (fun _ q _ => ra_v (i := 0) (by decide) q) (fun _ _ _ q1 q2 q3 => ra_x (i0 := 0) (by decide) rfl q1 q2 q3 xc_IO)
theorem ar_beginX_7 (h : CI n Z F g A) {x y y2 : Int32} (hx : ¬ (nI 0 ≤ x ∧ x ≤ nI 3)) : Tw Γ M_L_act [.ref 800000, .int (nI 7), .int x, .int y, .int y2] Z (rt (some (.int (-71))) Z) noX :=
  act_7 h.1 (r_beginX h hx (z := nI 0)) es_5 (fun _ q _ => ra_v (i := 0) (by decide) q) (fun _ _ _ q1 q2 q3 => ra_x (i0 := 0) (by decide) rfl q1 q2 q3 xc_IO)
theorem ar_beginY_6 (h : CI n Z F g A) {t : Nat} {y y2 : Int32} (ht : t < 4) (hy : ¬ (nI 0 ≤ y ∧ y ≤ nI 7)) : Tw Γ M_L_act [.ref 800000, .int (nI 6), .int (nI t), .int y, .int y2] Z (rt (some (.int (-71))) Z) noX :=
  act_6 h.1 (r_beginY h ht hy (z := nI 1)) es_5 (fun _ q _ => ra_v (i := 0) (by decide) q) (fun _ _ _ q1 q2 q3 => ra_x (i0 := 0) (by decide) rfl q1 q2 q3 xc_IO)
theorem ar_beginY_7 (h : CI n Z F g A) {t : Nat} {y y2 : Int32} (ht : t < 4) (hy : ¬ (nI 0 ≤ y ∧ y ≤ nI 7)) : Tw Γ M_L_act [.ref 800000, .int (nI 7), .int (nI t), .int y, .int y2] Z (rt (some (.int (-71))) Z) noX :=
  act_7 h.1 (r_beginY h ht hy (z := nI 0)) es_5 (fun _ q _ => ra_v (i := 0) (by decide) q) (fun _ _ _ q1 q2 q3 => ra_x (i0 := 0) (by decide) rfl q1 q2 q3 xc_IO)
theorem ar_beginZ_6 (h : CI n Z F g A) {t a : Nat} {y2 : Int32} (ht : t < 4) (ha : a < 8) (hy : ¬ (nI 0 ≤ y2 ∧ y2 ≤ nI 7)) : Tw Γ M_L_act [.ref 800000, .int (nI 6), .int (nI t), .int (nI a), .int y2] Z (rt (some (.int (-71))) Z) noX :=
  act_6 h.1 (r_beginZ h ht ha hy (z := nI 1)) es_5 (fun _ q _ => ra_v (i := 0) (by decide) q) (fun _ _ _ q1 q2 q3 => ra_x (i0 := 0) (by decide) rfl q1 q2 q3 xc_IO)
theorem ar_beginZ_7 (h : CI n Z F g A) {t a : Nat} {y2 : Int32} (ht : t < 4) (ha : a < 8) (hy : ¬ (nI 0 ≤ y2 ∧ y2 ≤ nI 7)) : Tw Γ M_L_act [.ref 800000, .int (nI 7), .int (nI t), .int (nI a), .int y2] Z (rt (some (.int (-71))) Z) noX :=
  act_7 h.1 (r_beginZ h ht ha hy (z := nI 0)) es_5 (fun _ q _ => ra_v (i := 0) (by decide) q) (fun _ _ _ q1 q2 q3 => ra_x (i0 := 0) (by decide) rfl q1 q2 q3 xc_IO)
theorem ar_beginU_6 (h : CI n Z F g A) {t a : Nat}  (ht : t < 4) (ha : a < 8) : Tw Γ M_L_act [.ref 800000, .int (nI 6), .int (nI t), .int (nI a), .int (nI a)] Z (rt (some (.int (-72))) Z) noX :=
  act_6 h.1 (r_beginU h ht ha (z := nI 1)) es_5 (fun _ q _ => ra_v (i := 1) (by decide) q) (fun _ _ _ q1 q2 q3 => ra_x (i0 := 1) (by decide) rfl q1 q2 q3 xc_IA)
theorem ar_beginU_7 (h : CI n Z F g A) {t a : Nat}  (ht : t < 4) (ha : a < 8) : Tw Γ M_L_act [.ref 800000, .int (nI 7), .int (nI t), .int (nI a), .int (nI a)] Z (rt (some (.int (-72))) Z) noX :=
  act_7 h.1 (r_beginU h ht ha (z := nI 0)) es_5 (fun _ q _ => ra_v (i := 1) (by decide) q) (fun _ _ _ q1 q2 q3 => ra_x (i0 := 1) (by decide) rfl q1 q2 q3 xc_IA)
theorem ar_resumeX (h : CI n Z F g A) {x y : Int32} (hx : ¬ (nI 0 ≤ x ∧ x ≤ nI (g 16 0) - nI 1)) {y9 : Int32} : Tw Γ M_L_act [.ref 800000, .int (nI 8), .int x, .int y, .int y9] Z (rt (some (.int (-71))) Z) noX :=
  act_8 h.1 (r_resumeX h hx) es_3 (fun _ q _ => ra_v (i := 0) (by decide) q) (fun _ _ _ q1 q2 q3 => ra_x (i0 := 0) (by decide) rfl q1 q2 q3 xc_IO)
theorem ar_resumeY (h : CI n Z F g A) {f : Nat} {y : Int32} (hf : f < g 16 0) (hy : ¬ (nI 0 ≤ y ∧ y ≤ nI 3)) {y9 : Int32} : Tw Γ M_L_act [.ref 800000, .int (nI 8), .int (nI f), .int y, .int y9] Z (rt (some (.int (-71))) Z) noX :=
  act_8 h.1 (r_resumeY h hf hy) es_3 (fun _ q _ => ra_v (i := 0) (by decide) q) (fun _ _ _ q1 q2 q3 => ra_x (i0 := 0) (by decide) rfl q1 q2 q3 xc_IO)
theorem ar_shootX (h : CI n Z F g A) {x y z : Int32} (hx : ¬ (nI 0 ≤ x ∧ x ≤ nI (g 16 0) - nI 1)) : Tw Γ M_L_act [.ref 800000, .int (nI 9), .int x, .int y, .int z] Z (rt (some (.int (-71))) Z) noX :=
  act_9 h.1 (r_shootX h hx) es_5 (fun _ q _ => ra_v (i := 0) (by decide) q) (fun _ _ _ q1 q2 q3 => ra_x (i0 := 0) (by decide) rfl q1 q2 q3 xc_IO)
theorem ar_shootY (h : CI n Z F g A) {f : Nat} {y z : Int32} (hf : f < g 16 0) (hy : ¬ (nI 0 ≤ y ∧ y ≤ nI 7)) : Tw Γ M_L_act [.ref 800000, .int (nI 9), .int (nI f), .int y, .int z] Z (rt (some (.int (-72))) Z) noX :=
  act_9 h.1 (r_shootY h hf hy) es_5 (fun _ q _ => ra_v (i := 1) (by decide) q) (fun _ _ _ q1 q2 q3 => ra_x (i0 := 1) (by decide) rfl q1 q2 q3 xc_IA)
theorem ar_shootZ (h : CI n Z F g A) {f d : Nat} {z : Int32} (hf : f < g 16 0) (d8 : d < 8) (hz : ¬ (nI 1 ≤ z ∧ z ≤ nI 40)) : Tw Γ M_L_act [.ref 800000, .int (nI 9), .int (nI f), .int (nI d), .int z] Z (rt (some (.int (-72))) Z) noX :=
  act_9 h.1 (r_shootZ h hf d8 hz) es_5 (fun _ q _ => ra_v (i := 1) (by decide) q) (fun _ _ _ q1 q2 q3 => ra_x (i0 := 1) (by decide) rfl q1 q2 q3 xc_IA)
theorem ar_lendX (h : CI n Z F g A) {x y : Int32} (hx : ¬ (nI 0 ≤ x ∧ x ≤ nI 5)) {y9 : Int32} : Tw Γ M_L_act [.ref 800000, .int (nI 10), .int x, .int y, .int y9] Z (rt (some (.int (-71))) Z) noX :=
  act_10 h.1 (r_lendX h hx) es_3 (fun _ q _ => ra_v (i := 0) (by decide) q) (fun _ _ _ q1 q2 q3 => ra_x (i0 := 0) (by decide) rfl q1 q2 q3 xc_IO)
theorem ar_lendY (h : CI n Z F g A) {u : Nat} {y : Int32} (hu : u < 6) (hy : ¬ (nI 0 ≤ y ∧ y ≤ nI 7)) {y9 : Int32} : Tw Γ M_L_act [.ref 800000, .int (nI 10), .int (nI u), .int y, .int y9] Z (rt (some (.int (-71))) Z) noX :=
  act_10 h.1 (r_lendY h hu hy) es_3 (fun _ q _ => ra_v (i := 0) (by decide) q) (fun _ _ _ q1 q2 q3 => ra_x (i0 := 0) (by decide) rfl q1 q2 q3 xc_IO)
theorem ar_takeBackX (h : CI n Z F g A) {x : Int32} (hx : ¬ (nI 0 ≤ x ∧ x ≤ nI 5)) {y9 z9 : Int32} : Tw Γ M_L_act [.ref 800000, .int (nI 11), .int x, .int y9, .int z9] Z (rt (some (.int (-71))) Z) noX :=
  act_11 h.1 (r_takeBackX h hx) es_3 (fun _ q _ => ra_v (i := 0) (by decide) q) (fun _ _ _ q1 q2 q3 => ra_x (i0 := 0) (by decide) rfl q1 q2 q3 xc_IO)
theorem ar_tipX (h : CI n Z F g A) {x : Int32} (hx : ¬ (nI 0 ≤ x ∧ x ≤ nI 5)) {y9 z9 : Int32} : Tw Γ M_L_act [.ref 800000, .int (nI 12), .int x, .int y9, .int z9] Z (rt (some (.int (-71))) Z) noX :=
  act_12 h.1 (r_tipX h hx) es_3 (fun _ q _ => ra_v (i := 0) (by decide) q) (fun _ _ _ q1 q2 q3 => ra_x (i0 := 0) (by decide) rfl q1 q2 q3 xc_IO)
theorem ar_isOpenX (h : CI n Z F g A) {x : Int32} (hx : ¬ (nI 0 ≤ x ∧ x ≤ nI 3)) {y9 z9 : Int32} : Tw Γ M_L_act [.ref 800000, .int (nI 13), .int x, .int y9, .int z9] Z (rt (some (.int (-71))) Z) noX :=
  act_13 h.1 (r_isOpenX h hx) es_1 (fun _ q _ => ra_v (i := 0) (by decide) q) (fun _ _ _ q1 q2 q3 => ra_x (i0 := 0) (by decide) rfl q1 q2 q3 xc_IO)
theorem ar_renterX (h : CI n Z F g A) {x : Int32} (hx : ¬ (nI 0 ≤ x ∧ x ≤ nI 3)) {y9 z9 : Int32} : Tw Γ M_L_act [.ref 800000, .int (nI 14), .int x, .int y9, .int z9] Z (rt (some (.int (-71))) Z) noX :=
  act_14 h.1 (r_renterX h hx) es_1 (fun _ q _ => ra_v (i := 0) (by decide) q) (fun _ _ _ q1 q2 q3 => ra_x (i0 := 0) (by decide) rfl q1 q2 q3 xc_IO)
theorem ar_clockX (h : CI n Z F g A) {x : Int32} (hx : ¬ (nI 0 ≤ x ∧ x ≤ nI 3)) {y9 z9 : Int32} : Tw Γ M_L_act [.ref 800000, .int (nI 15), .int x, .int y9, .int z9] Z (rt (some (.int (-71))) Z) noX :=
  act_15 h.1 (r_clockX h hx) es_1 (fun _ q _ => ra_v (i := 0) (by decide) q) (fun _ _ _ q1 q2 q3 => ra_x (i0 := 0) (by decide) rfl q1 q2 q3 xc_IO)
theorem ar_frameOnX (h : CI n Z F g A) {x : Int32} (hx : ¬ (nI 0 ≤ x ∧ x ≤ nI 3)) {y9 z9 : Int32} : Tw Γ M_L_act [.ref 800000, .int (nI 16), .int x, .int y9, .int z9] Z (rt (some (.int (-71))) Z) noX :=
  act_16 h.1 (r_frameOnX h hx) es_1 (fun _ q _ => ra_v (i := 0) (by decide) q) (fun _ _ _ q1 q2 q3 => ra_x (i0 := 0) (by decide) rfl q1 q2 q3 xc_IO)
theorem ar_owesX (h : CI n Z F g A) {x : Int32} (hx : ¬ (nI 0 ≤ x ∧ x ≤ nI 7)) {y9 z9 : Int32} : Tw Γ M_L_act [.ref 800000, .int (nI 17), .int x, .int y9, .int z9] Z (rt (some (.int (-71))) Z) noX :=
  act_17 h.1 (r_owesX h hx) es_1 (fun _ q _ => ra_v (i := 0) (by decide) q) (fun _ _ _ q1 q2 q3 => ra_x (i0 := 0) (by decide) rfl q1 q2 q3 xc_IO)
theorem ar_owesAnewX (h : CI n Z F g A) {x : Int32} (hx : ¬ (nI 0 ≤ x ∧ x ≤ nI 7)) {y9 z9 : Int32} : Tw Γ M_L_act [.ref 800000, .int (nI 18), .int x, .int y9, .int z9] Z (rt (some (.int (-71))) Z) noX :=
  act_18 h.1 (r_owesAnewX h hx) es_1 (fun _ q _ => ra_v (i := 0) (by decide) q) (fun _ _ _ q1 q2 q3 => ra_x (i0 := 0) (by decide) rfl q1 q2 q3 xc_IO)
theorem ar_winsX (h : CI n Z F g A) {x : Int32} (hx : ¬ (nI 0 ≤ x ∧ x ≤ nI 7)) {y9 z9 : Int32} : Tw Γ M_L_act [.ref 800000, .int (nI 19), .int x, .int y9, .int z9] Z (rt (some (.int (-71))) Z) noX :=
  act_19 h.1 (r_winsX h hx) es_1 (fun _ q _ => ra_v (i := 0) (by decide) q) (fun _ _ _ q1 q2 q3 => ra_x (i0 := 0) (by decide) rfl q1 q2 q3 xc_IO)
theorem ar_rankX (h : CI n Z F g A) {x : Int32} (hx : ¬ (nI 0 ≤ x ∧ x ≤ nI 7)) {y9 z9 : Int32} : Tw Γ M_L_act [.ref 800000, .int (nI 20), .int x, .int y9, .int z9] Z (rt (some (.int (-71))) Z) noX :=
  act_20 h.1 (r_rankX h hx) es_1 (fun _ q _ => ra_v (i := 0) (by decide) q) (fun _ _ _ q1 q2 q3 => ra_x (i0 := 0) (by decide) rfl q1 q2 q3 xc_IO)
theorem ar_cueOfX (h : CI n Z F g A) {x : Int32} (hx : ¬ (nI 0 ≤ x ∧ x ≤ nI 7)) {y9 z9 : Int32} : Tw Γ M_L_act [.ref 800000, .int (nI 21), .int x, .int y9, .int z9] Z (rt (some (.int (-71))) Z) noX :=
  act_21 h.1 (r_cueOfX h hx) es_1 (fun _ q _ => ra_v (i := 0) (by decide) q) (fun _ _ _ q1 q2 q3 => ra_x (i0 := 0) (by decide) rfl q1 q2 q3 xc_IO)
theorem ar_stateX (h : CI n Z F g A) {x : Int32} (hx : ¬ (nI 0 ≤ x ∧ x ≤ nI (g 16 0) - nI 1)) {y9 z9 : Int32} : Tw Γ M_L_act [.ref 800000, .int (nI 22), .int x, .int y9, .int z9] Z (rt (some (.int (-71))) Z) noX :=
  act_22 h.1 (r_stateX h hx) es_1 (fun _ q _ => ra_v (i := 0) (by decide) q) (fun _ _ _ q1 q2 q3 => ra_x (i0 := 0) (by decide) rfl q1 q2 q3 xc_IO)
theorem ar_ballOnX (h : CI n Z F g A) {x : Int32} (hx : ¬ (nI 0 ≤ x ∧ x ≤ nI (g 16 0) - nI 1)) {y9 z9 : Int32} : Tw Γ M_L_act [.ref 800000, .int (nI 23), .int x, .int y9, .int z9] Z (rt (some (.int (-71))) Z) noX :=
  act_23 h.1 (r_ballOnX h hx) es_1 (fun _ q _ => ra_v (i := 0) (by decide) q) (fun _ _ _ q1 q2 q3 => ra_x (i0 := 0) (by decide) rfl q1 q2 q3 xc_IO)
theorem ar_isFreeX (h : CI n Z F g A) {x : Int32} (hx : ¬ (nI 0 ≤ x ∧ x ≤ nI (g 16 0) - nI 1)) {y9 z9 : Int32} : Tw Γ M_L_act [.ref 800000, .int (nI 24), .int x, .int y9, .int z9] Z (rt (some (.int (-71))) Z) noX :=
  act_24 h.1 (r_isFreeX h hx) es_1 (fun _ q _ => ra_v (i := 0) (by decide) q) (fun _ _ _ q1 q2 q3 => ra_x (i0 := 0) (by decide) rfl q1 q2 q3 xc_IO)
theorem ar_turnX (h : CI n Z F g A) {x : Int32} (hx : ¬ (nI 0 ≤ x ∧ x ≤ nI (g 16 0) - nI 1)) {y9 z9 : Int32} : Tw Γ M_L_act [.ref 800000, .int (nI 25), .int x, .int y9, .int z9] Z (rt (some (.int (-71))) Z) noX :=
  act_25 h.1 (r_turnX h hx) es_1 (fun _ q _ => ra_v (i := 0) (by decide) q) (fun _ _ _ q1 q2 q3 => ra_x (i0 := 0) (by decide) rfl q1 q2 q3 xc_IO)
theorem ar_winnerX (h : CI n Z F g A) {x : Int32} (hx : ¬ (nI 0 ≤ x ∧ x ≤ nI (g 16 0) - nI 1)) {y9 z9 : Int32} : Tw Γ M_L_act [.ref 800000, .int (nI 27), .int x, .int y9, .int z9] Z (rt (some (.int (-71))) Z) noX :=
  act_27 h.1 (r_winnerX h hx) es_1 (fun _ q _ => ra_v (i := 0) (by decide) q) (fun _ _ _ q1 q2 q3 => ra_x (i0 := 0) (by decide) rfl q1 q2 q3 xc_IO)
theorem ar_pointsX (h : CI n Z F g A) {x : Int32} (hx : ¬ (nI 0 ≤ x ∧ x ≤ nI (g 16 0) - nI 1)) {y9 : Int32} : Tw Γ M_L_act [.ref 800000, .int (nI 26), .int x, .int (nI 0), .int y9] Z (rt (some (.int (-71))) Z) noX :=
  act_26 h.1 (r_pointsX h hx (z := nI 0)) es_1 (fun _ q _ => ra_v (i := 0) (by decide) q) (fun _ _ _ q1 q2 q3 => ra_x (i0 := 0) (by decide) rfl q1 q2 q3 xc_IO)
theorem ar_cellX (h : CI n Z F g A) {x y : Int32} (hx : ¬ (nI 0 ≤ x ∧ x ≤ nI (g 16 0) - nI 1)) {y9 : Int32} : Tw Γ M_L_act [.ref 800000, .int (nI 28), .int x, .int y, .int y9] Z (rt (some (.int (-71))) Z) noX :=
  act_28 h.1 (r_cellX h hx) es_1 (fun _ q _ => ra_v (i := 0) (by decide) q) (fun _ _ _ q1 q2 q3 => ra_x (i0 := 0) (by decide) rfl q1 q2 q3 xc_IO)
theorem ar_cellY (h : CI n Z F g A) {f : Nat} {y : Int32} (hf : f < g 16 0) (hy : ¬ (nI 0 ≤ y ∧ y ≤ nI 7)) {y9 : Int32} : Tw Γ M_L_act [.ref 800000, .int (nI 28), .int (nI f), .int y, .int y9] Z (rt (some (.int (-71))) Z) noX :=
  act_28 h.1 (r_cellY h hf hy) es_1 (fun _ q _ => ra_v (i := 0) (by decide) q) (fun _ _ _ q1 q2 q3 => ra_x (i0 := 0) (by decide) rfl q1 q2 q3 xc_IO)
theorem ar_wearX (h : CI n Z F g A) {x : Int32} (hx : ¬ (nI 0 ≤ x ∧ x ≤ nI 5)) {y9 z9 : Int32} : Tw Γ M_L_act [.ref 800000, .int (nI 31), .int x, .int y9, .int z9] Z (rt (some (.int (-71))) Z) noX :=
  act_31 h.1 (r_wearX h hx) es_1 (fun _ q _ => ra_v (i := 0) (by decide) q) (fun _ _ _ q1 q2 q3 => ra_x (i0 := 0) (by decide) rfl q1 q2 q3 xc_IO)
theorem ar_forceX (h : CI n Z F g A) {x z : Int32} (hx : ¬ (nI 0 ≤ x ∧ x ≤ nI 7)) {y9 : Int32} : Tw Γ M_L_act [.ref 800000, .int (nI 32), .int x, .int z, .int y9] Z (rt (some (.int (-71))) Z) noX :=
  act_32 h.1 (r_forceX h hx) es_4 (fun _ q _ => ra_v (i := 0) (by decide) q) (fun _ _ _ q1 q2 q3 => ra_x (i0 := 0) (by decide) rfl q1 q2 q3 xc_IO)
theorem ar_forceY (h : CI n Z F g A) {c : Nat} {z : Int32} (hc : c < 8) (hz : ¬ (nI 1 ≤ z ∧ z ≤ nI 40)) {y9 : Int32} : Tw Γ M_L_act [.ref 800000, .int (nI 32), .int (nI c), .int z, .int y9] Z (rt (some (.int (-72))) Z) noX :=
  act_32 h.1 (r_forceY h hc hz) es_4 (fun _ q _ => ra_v (i := 1) (by decide) q) (fun _ _ _ q1 q2 q3 => ra_x (i0 := 1) (by decide) rfl q1 q2 q3 xc_IA)
theorem ar_contactsX (h : CI n Z F g A) {x y z : Int32} (hx : ¬ (nI 0 ≤ x ∧ x ≤ nI (g 16 0) - nI 1)) : Tw Γ M_L_act [.ref 800000, .int (nI 29), .int x, .int y, .int z] Z (rt (some (.int (-71))) Z) noX :=
  act_29 h.1 (r_contactsX h hx) es_4 (fun _ q _ => ra_v (i := 0) (by decide) q) (fun _ _ _ q1 q2 q3 => ra_x (i0 := 0) (by decide) rfl q1 q2 q3 xc_IO)
theorem ar_contactsY (h : CI n Z F g A) {f : Nat} {y z : Int32} (hf : f < g 16 0) (hy : ¬ (nI 0 ≤ y ∧ y ≤ nI 7)) : Tw Γ M_L_act [.ref 800000, .int (nI 29), .int (nI f), .int y, .int z] Z (rt (some (.int (-72))) Z) noX :=
  act_29 h.1 (r_contactsY h hf hy) es_4 (fun _ q _ => ra_v (i := 1) (by decide) q) (fun _ _ _ q1 q2 q3 => ra_x (i0 := 1) (by decide) rfl q1 q2 q3 xc_IA)
theorem ar_contactsZ (h : CI n Z F g A) {f d : Nat} {z : Int32} (hf : f < g 16 0) (d8 : d < 8) (hz : ¬ (nI 1 ≤ z ∧ z ≤ nI 40)) : Tw Γ M_L_act [.ref 800000, .int (nI 29), .int (nI f), .int (nI d), .int z] Z (rt (some (.int (-72))) Z) noX :=
  act_29 h.1 (r_contactsZ h hf d8 hz) es_4 (fun _ q _ => ra_v (i := 1) (by decide) q) (fun _ _ _ q1 q2 q3 => ra_x (i0 := 1) (by decide) rfl q1 q2 q3 xc_IA)
theorem ar_contactsByPairsX (h : CI n Z F g A) {x y z : Int32} (hx : ¬ (nI 0 ≤ x ∧ x ≤ nI (g 16 0) - nI 1)) : Tw Γ M_L_act [.ref 800000, .int (nI 30), .int x, .int y, .int z] Z (rt (some (.int (-71))) Z) noX :=
  act_30 h.1 (r_contactsByPairsX h hx) es_4 (fun _ q _ => ra_v (i := 0) (by decide) q) (fun _ _ _ q1 q2 q3 => ra_x (i0 := 0) (by decide) rfl q1 q2 q3 xc_IO)
theorem ar_contactsByPairsY (h : CI n Z F g A) {f : Nat} {y z : Int32} (hf : f < g 16 0) (hy : ¬ (nI 0 ≤ y ∧ y ≤ nI 7)) : Tw Γ M_L_act [.ref 800000, .int (nI 30), .int (nI f), .int y, .int z] Z (rt (some (.int (-72))) Z) noX :=
  act_30 h.1 (r_contactsByPairsY h hf hy) es_4 (fun _ q _ => ra_v (i := 1) (by decide) q) (fun _ _ _ q1 q2 q3 => ra_x (i0 := 1) (by decide) rfl q1 q2 q3 xc_IA)
theorem ar_contactsByPairsZ (h : CI n Z F g A) {f d : Nat} {z : Int32} (hf : f < g 16 0) (d8 : d < 8) (hz : ¬ (nI 1 ≤ z ∧ z ≤ nI 40)) : Tw Γ M_L_act [.ref 800000, .int (nI 30), .int (nI f), .int (nI d), .int z] Z (rt (some (.int (-72))) Z) noX :=
  act_30 h.1 (r_contactsByPairsZ h hf d8 hz) es_4 (fun _ q _ => ra_v (i := 1) (by decide) q) (fun _ _ _ q1 q2 q3 => ra_x (i0 := 1) (by decide) rfl q1 q2 q3 xc_IA)
theorem ar_passY (h : CI n Z F g A) {m : Nat} (hm1 : 1 ≤ m) (hm2 : m ≤ 200) (hm : ¬ g 15 0 + m ≤ 10000) {y9 z9 : Int32} : Tw Γ M_L_act [.ref 800000, .int (nI 5), .int (nI m), .int y9, .int z9] Z (rt (some (.int (-73))) Z) noX :=
  act_5 h.1 (r_passY h hm1 hm2 hm) es_6 (fun _ q _ => ra_v (i := 1) (by decide) q) (fun _ _ _ q1 q2 q3 => ra_x (i0 := 1) (by decide) rfl q1 q2 q3 xc_IS)
theorem ar_shootV (h : CI n Z F g A) {f d : Nat} {z : Int32} (hf : f < g 16 0) (d8 : d < 8) (hz : nI 1 ≤ z ∧ z ≤ nI 40) (hs : ¬ F 113 f = nI 0) : Tw Γ M_L_act [.ref 800000, .int (nI 9), .int (nI f), .int (nI d), .int z] Z (rt (some (.int (-73))) Z) noX :=
  act_9 h.1 (r_shootV h hf d8 hz hs) es_5 (fun _ q _ => ra_v (i := 2) (by decide) q) (fun _ _ _ q1 q2 q3 => ra_x (i0 := 2) (by decide) rfl q1 q2 q3 xc_IS)
end AR
