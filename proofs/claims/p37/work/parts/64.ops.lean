-- ===== what each call does =====
/-- the state stays as it is -/
abbrev PZ (Z : HS) : HS → FT → Prop := fun Z' _ => Z' = Z
/-- the hall stays as it is, its rolls aside -/
abbrev PC (n : Nat) (F : FT) (g : GN) (A : FT) : HS → FT → Prop := fun Z' _ => CI n Z' F g A
/-- a call that tells v -/
def TL (Γ : GTy) (μ : MTy) (as : List Value) (Z : HS) (es : List String) (v : Int32) (F' : FT) : Prop := Tt Γ μ (.ref 800000 :: as) Z (QVo (PZ Z) Z F' v) (QXo (PZ Z) Z F' es)
/-- a call that changes: v, and the numbers F' behind it -/
def MU (Γ : GTy) (n : Nat) (μ : MTy) (as : List Value) (Z : HS) (es : List String) (v : Int32) (F' : FT) : Prop := Tt Γ μ (.ref 800000 :: as) Z (QVo (PN n Z) Z F' v) (QXo (PN n Z) Z F' es)
section OP
variable {Γ : GTy} {n : Nat} {Z : HS} {F A : FT} {g : GN}
theorem r_setPriceX (h : CI n Z F g A) {x : Int32} (hx : ¬ (nI 0 ≤ x ∧ x ≤ nI 50)) : TL Γ M_X9_setPrice [.int x] Z [xIA] (nI 0) (thr F (nI 1)) :=
  K_setPriceX h hx u2_e rfl
theorem r_rentX (h : CI n Z F g A) {x y : Int32} (hx : ¬ (nI 0 ≤ x ∧ x ≤ nI 3)) : TL Γ M_X9_rent [.int x, .int y] Z [xIO, xIS] (nI 0) (thr F (nI 1)) :=
  K_rentX h hx u2_e rfl
theorem r_rentY (h : CI n Z F g A) {t : Nat} {y : Int32} (ht : t < 4) (hy : ¬ (nI 0 ≤ y ∧ y ≤ nI 7)) : TL Γ M_X9_rent [.int (nI t), .int y] Z [xIO, xIS] (nI 0) (thr F (nI 1)) :=
  K_rentY h ht hy u2_e rfl
theorem r_endX (h : CI n Z F g A) {x : Int32} (hx : ¬ (nI 0 ≤ x ∧ x ≤ nI 3)) : TL Γ M_X9_end [.int x] Z [xIO, xIS] (nI 0) (thr F (nI 1)) :=
  K_endX h hx u2_e rfl
theorem r_tearX (h : CI n Z F g A) {x : Int32} (hx : ¬ (nI 0 ≤ x ∧ x ≤ nI 3)) : TL Γ M_X9_tear [.int x] Z [xIO, xIS] (nI 0) (thr F (nI 1)) :=
  K_tearX h hx u2_e rfl
theorem r_mendX (h : CI n Z F g A) {x : Int32} (hx : ¬ (nI 0 ≤ x ∧ x ≤ nI 3)) : TL Γ M_X9_mend [.int x] Z [xIO, xIS] (nI 0) (thr F (nI 1)) :=
  K_mendX h hx u2_e rfl
theorem r_passX (h : CI n Z F g A) {x : Int32} (hx : ¬ (nI 1 ≤ x ∧ x ≤ nI 200)) : TL Γ M_X9_pass [.int x] Z [xIA, xIS] (nI 0) (thr F (nI 1)) :=
  K_passX h hx u2_e rfl
theorem r_beginX (h : CI n Z F g A) {x y y2 z : Int32} (hx : ¬ (nI 0 ≤ x ∧ x ≤ nI 3)) : TL Γ M_X9_begin [.int x, .int y, .int y2, .int z] Z [xIO, xIA, xIS] (nI 0) (thr F (nI 1)) :=
  K_beginX h hx u2_e rfl
theorem r_beginY (h : CI n Z F g A) {t : Nat} {y y2 z : Int32} (ht : t < 4) (hy : ¬ (nI 0 ≤ y ∧ y ≤ nI 7)) : TL Γ M_X9_begin [.int (nI t), .int y, .int y2, .int z] Z [xIO, xIA, xIS] (nI 0) (thr F (nI 1)) :=
  K_beginY h ht hy u2_e rfl
theorem r_beginZ (h : CI n Z F g A) {t a : Nat} {y2 z : Int32} (ht : t < 4) (ha : a < 8) (hy : ¬ (nI 0 ≤ y2 ∧ y2 ≤ nI 7)) : TL Γ M_X9_begin [.int (nI t), .int (nI a), .int y2, .int z] Z [xIO, xIA, xIS] (nI 0) (thr F (nI 1)) :=
  K_beginZ h ht ha hy u2_e rfl
theorem r_beginU (h : CI n Z F g A) {t a : Nat} {z : Int32} (ht : t < 4) (ha : a < 8) : TL Γ M_X9_begin [.int (nI t), .int (nI a), .int (nI a), .int z] Z [xIO, xIA, xIS] (nI 0) (thr F (nI 2)) :=
  K_beginU h ht ha ha rfl u2_e rfl
theorem r_resumeX (h : CI n Z F g A) {x y : Int32} (hx : ¬ (nI 0 ≤ x ∧ x ≤ nI (g 16 0) - nI 1)) : TL Γ M_X9_resume [.int x, .int y] Z [xIO, xIS] (nI 0) (thr F (nI 1)) :=
  K_resumeX h hx u2_e rfl
theorem r_resumeY (h : CI n Z F g A) {f : Nat} {y : Int32} (hf : f < g 16 0) (hy : ¬ (nI 0 ≤ y ∧ y ≤ nI 3)) : TL Γ M_X9_resume [.int (nI f), .int y] Z [xIO, xIS] (nI 0) (thr F (nI 1)) :=
  K_resumeY h hf hy u2_e rfl
theorem r_shootX (h : CI n Z F g A) {x y z : Int32} (hx : ¬ (nI 0 ≤ x ∧ x ≤ nI (g 16 0) - nI 1)) : TL Γ M_X9_shoot [.int x, .int y, .int z] Z [xIO, xIA, xIS] (nI 0) (thr F (nI 1)) :=
  K_shootX h hx u2_e rfl
theorem r_shootY (h : CI n Z F g A) {f : Nat} {y z : Int32} (hf : f < g 16 0) (hy : ¬ (nI 0 ≤ y ∧ y ≤ nI 7)) : TL Γ M_X9_shoot [.int (nI f), .int y, .int z] Z [xIO, xIA, xIS] (nI 0) (thr F (nI 2)) :=
  K_shootY h hf hy u2_e rfl
theorem r_shootZ (h : CI n Z F g A) {f d : Nat} {z : Int32} (hf : f < g 16 0) (d8 : d < 8) (hz : ¬ (nI 1 ≤ z ∧ z ≤ nI 40)) : TL Γ M_X9_shoot [.int (nI f), .int (nI d), .int z] Z [xIO, xIA, xIS] (nI 0) (thr F (nI 2)) :=
  K_shootZ h hf d8 hz u2_e rfl
theorem r_lendX (h : CI n Z F g A) {x y : Int32} (hx : ¬ (nI 0 ≤ x ∧ x ≤ nI 5)) : TL Γ M_X9_lend [.int x, .int y] Z [xIO, xIS] (nI 0) (thr F (nI 1)) :=
  K_lendX h hx u2_e rfl
theorem r_lendY (h : CI n Z F g A) {u : Nat} {y : Int32} (hu : u < 6) (hy : ¬ (nI 0 ≤ y ∧ y ≤ nI 7)) : TL Γ M_X9_lend [.int (nI u), .int y] Z [xIO, xIS] (nI 0) (thr F (nI 1)) :=
  K_lendY h hu hy u2_e rfl
theorem r_takeBackX (h : CI n Z F g A) {x : Int32} (hx : ¬ (nI 0 ≤ x ∧ x ≤ nI 5)) : TL Γ M_X9_takeBack [.int x] Z [xIO, xIS] (nI 0) (thr F (nI 1)) :=
  K_takeBackX h hx u2_e rfl
theorem r_tipX (h : CI n Z F g A) {x : Int32} (hx : ¬ (nI 0 ≤ x ∧ x ≤ nI 5)) : TL Γ M_X9_tip [.int x] Z [xIO, xIS] (nI 0) (thr F (nI 1)) :=
  K_tipX h hx u2_e rfl
theorem r_isOpenX (h : CI n Z F g A) {x : Int32} (hx : ¬ (nI 0 ≤ x ∧ x ≤ nI 3)) : TL Γ M_X9_isOpen [.int x] Z [xIO] (nI 0) (thr F (nI 1)) :=
  K_isOpenX h hx u2_e rfl
theorem r_renterX (h : CI n Z F g A) {x : Int32} (hx : ¬ (nI 0 ≤ x ∧ x ≤ nI 3)) : TL Γ M_X9_renter [.int x] Z [xIO] (nI 0) (thr F (nI 1)) :=
  K_renterX h hx u2_e rfl
theorem r_clockX (h : CI n Z F g A) {x : Int32} (hx : ¬ (nI 0 ≤ x ∧ x ≤ nI 3)) : TL Γ M_X9_clock [.int x] Z [xIO] (nI 0) (thr F (nI 1)) :=
  K_clockX h hx u2_e rfl
theorem r_frameOnX (h : CI n Z F g A) {x : Int32} (hx : ¬ (nI 0 ≤ x ∧ x ≤ nI 3)) : TL Γ M_X9_frameOn [.int x] Z [xIO] (nI 0) (thr F (nI 1)) :=
  K_frameOnX h hx u2_e rfl
theorem r_owesX (h : CI n Z F g A) {x : Int32} (hx : ¬ (nI 0 ≤ x ∧ x ≤ nI 7)) : TL Γ M_X9_owes [.int x] Z [xIO] (nI 0) (thr F (nI 1)) :=
  K_owesX h hx u2_e rfl
theorem r_owesAnewX (h : CI n Z F g A) {x : Int32} (hx : ¬ (nI 0 ≤ x ∧ x ≤ nI 7)) : TL Γ M_X9_owesAnew [.int x] Z [xIO] (nI 0) (thr F (nI 1)) :=
  K_owesAnewX h hx u2_e rfl
theorem r_winsX (h : CI n Z F g A) {x : Int32} (hx : ¬ (nI 0 ≤ x ∧ x ≤ nI 7)) : TL Γ M_X9_wins [.int x] Z [xIO] (nI 0) (thr F (nI 1)) :=
  K_winsX h hx u2_e rfl
theorem r_rankX (h : CI n Z F g A) {x : Int32} (hx : ¬ (nI 0 ≤ x ∧ x ≤ nI 7)) : TL Γ M_X9_rank [.int x] Z [xIO] (nI 0) (thr F (nI 1)) :=
  K_rankX h hx u2_e rfl
theorem r_cueOfX (h : CI n Z F g A) {x : Int32} (hx : ¬ (nI 0 ≤ x ∧ x ≤ nI 7)) : TL Γ M_X9_cueOf [.int x] Z [xIO] (nI 0) (thr F (nI 1)) :=
  K_cueOfX h hx u2_e rfl
theorem r_stateX (h : CI n Z F g A) {x : Int32} (hx : ¬ (nI 0 ≤ x ∧ x ≤ nI (g 16 0) - nI 1)) : TL Γ M_X9_state [.int x] Z [xIO] (nI 0) (thr F (nI 1)) :=
  K_stateX h hx u2_e rfl
theorem r_ballOnX (h : CI n Z F g A) {x : Int32} (hx : ¬ (nI 0 ≤ x ∧ x ≤ nI (g 16 0) - nI 1)) : TL Γ M_X9_ballOn [.int x] Z [xIO] (nI 0) (thr F (nI 1)) :=
  K_ballOnX h hx u2_e rfl
theorem r_isFreeX (h : CI n Z F g A) {x : Int32} (hx : ¬ (nI 0 ≤ x ∧ x ≤ nI (g 16 0) - nI 1)) : TL Γ M_X9_isFree [.int x] Z [xIO] (nI 0) (thr F (nI 1)) :=
  K_isFreeX h hx u2_e rfl
theorem r_turnX (h : CI n Z F g A) {x : Int32} (hx : ¬ (nI 0 ≤ x ∧ x ≤ nI (g 16 0) - nI 1)) : TL Γ M_X9_turn [.int x] Z [xIO] (nI 0) (thr F (nI 1)) :=
  K_turnX h hx u2_e rfl
theorem r_winnerX (h : CI n Z F g A) {x : Int32} (hx : ¬ (nI 0 ≤ x ∧ x ≤ nI (g 16 0) - nI 1)) : TL Γ M_X9_winner [.int x] Z [xIO] (nI 0) (thr F (nI 1)) :=
  K_winnerX h hx u2_e rfl
theorem r_pointsX (h : CI n Z F g A) {x z : Int32} (hx : ¬ (nI 0 ≤ x ∧ x ≤ nI (g 16 0) - nI 1)) : TL Γ M_X9_points [.int x, .int z] Z [xIO] (nI 0) (thr F (nI 1)) :=
  K_pointsX h hx u2_e rfl
theorem r_cellX (h : CI n Z F g A) {x y : Int32} (hx : ¬ (nI 0 ≤ x ∧ x ≤ nI (g 16 0) - nI 1)) : TL Γ M_X9_cell [.int x, .int y] Z [xIO] (nI 0) (thr F (nI 1)) :=
  K_cellX h hx u2_e rfl
theorem r_cellY (h : CI n Z F g A) {f : Nat} {y : Int32} (hf : f < g 16 0) (hy : ¬ (nI 0 ≤ y ∧ y ≤ nI 7)) : TL Γ M_X9_cell [.int (nI f), .int y] Z [xIO] (nI 0) (thr F (nI 1)) :=
  K_cellY h hf hy u2_e rfl
theorem r_wearX (h : CI n Z F g A) {x : Int32} (hx : ¬ (nI 0 ≤ x ∧ x ≤ nI 5)) : TL Γ M_X9_wear [.int x] Z [xIO] (nI 0) (thr F (nI 1)) :=
  K_wearX h hx u2_e rfl
theorem r_forceX (h : CI n Z F g A) {x z : Int32} (hx : ¬ (nI 0 ≤ x ∧ x ≤ nI 7)) : TL Γ M_X9_force [.int x, .int z] Z [xIO, xIA] (nI 0) (thr F (nI 1)) :=
  K_forceX h hx u2_e rfl
theorem r_forceY (h : CI n Z F g A) {c : Nat} {z : Int32} (hc : c < 8) (hz : ¬ (nI 1 ≤ z ∧ z ≤ nI 40)) : TL Γ M_X9_force [.int (nI c), .int z] Z [xIO, xIA] (nI 0) (thr F (nI 2)) :=
  K_forceY h hc hz u2_e rfl
theorem r_contactsX (h : CI n Z F g A) {x y z : Int32} (hx : ¬ (nI 0 ≤ x ∧ x ≤ nI (g 16 0) - nI 1)) : TL Γ M_X9_contacts [.int x, .int y, .int z] Z [xIO, xIA] (nI 0) (thr F (nI 1)) :=
  K_contacts h.1 (K_cOf0X h hx u2_e rfl)
theorem r_contactsY (h : CI n Z F g A) {f : Nat} {y z : Int32} (hf : f < g 16 0) (hy : ¬ (nI 0 ≤ y ∧ y ≤ nI 7)) : TL Γ M_X9_contacts [.int (nI f), .int y, .int z] Z [xIO, xIA] (nI 0) (thr F (nI 2)) :=
  K_contacts h.1 (K_cOf0Y h hf hy u2_e rfl)
theorem r_contactsZ (h : CI n Z F g A) {f d : Nat} {z : Int32} (hf : f < g 16 0) (d8 : d < 8) (hz : ¬ (nI 1 ≤ z ∧ z ≤ nI 40)) : TL Γ M_X9_contacts [.int (nI f), .int (nI d), .int z] Z [xIO, xIA] (nI 0) (thr F (nI 2)) :=
  K_contacts h.1 (K_cOf0Z h hf d8 hz u2_e rfl)
theorem r_contactsByPairsX (h : CI n Z F g A) {x y z : Int32} (hx : ¬ (nI 0 ≤ x ∧ x ≤ nI (g 16 0) - nI 1)) : TL Γ M_X9_contactsByPairs [.int x, .int y, .int z] Z [xIO, xIA] (nI 0) (thr F (nI 1)) :=
  K_contactsByPairs h.1 (K_cOf4X h hx u2_e rfl)
theorem r_contactsByPairsY (h : CI n Z F g A) {f : Nat} {y z : Int32} (hf : f < g 16 0) (hy : ¬ (nI 0 ≤ y ∧ y ≤ nI 7)) : TL Γ M_X9_contactsByPairs [.int (nI f), .int y, .int z] Z [xIO, xIA] (nI 0) (thr F (nI 2)) :=
  K_contactsByPairs h.1 (K_cOf4Y h hf hy u2_e rfl)
theorem r_contactsByPairsZ (h : CI n Z F g A) {f d : Nat} {z : Int32} (hf : f < g 16 0) (d8 : d < 8) (hz : ¬ (nI 1 ≤ z ∧ z ≤ nI 40)) : TL Γ M_X9_contactsByPairs [.int (nI f), .int (nI d), .int z] Z [xIO, xIA] (nI 0) (thr F (nI 2)) :=
  K_contactsByPairs h.1 (K_cOf4Z h hf d8 hz u2_e rfl)
theorem t_isOpen (h : CI n Z F g A) {t : Nat} (ht : t < 4) : TL Γ M_X9_isOpen [.int (nI t)] Z [xIO] (b2 (F 102 t = 0)) (thr F (nI 0)) := by
  have h0 := h
  obtain ⟨hH, ⟨hPI, hPG, hZo⟩, ⟨hZh, hZd, hZw⟩, ⟨hZt, hZc, hZf⟩, ⟨hZr, hZs, hZl⟩, hZfr, hZbd⟩ := h0
  exact K_isOpenN h ht rfl u2_e rfl
theorem t_renter (h : CI n Z F g A) {t : Nat} (ht : t < 4) : TL Γ M_X9_renter [.int (nI t)] Z [xIO] (F 103 t - nI 1) (thr F (nI 0)) := by
  have h0 := h
  obtain ⟨hH, ⟨hPI, hPG, hZo⟩, ⟨hZh, hZd, hZw⟩, ⟨hZt, hZc, hZf⟩, ⟨hZr, hZs, hZl⟩, hZfr, hZbd⟩ := h0
  by_cases z : g 0 t = 0
  · exact K_renterN0 h ht z (by rw [(hPI.2.1 t ht).2.1.1, z]; decide) u2_e rfl
  · exact K_renterN1 h ht z (by rw [(hPI.2.1 t ht).2.1.1, ← (hPG.2.1 t ht z).2.2.1, pk_sub (by omega), Nat.add_sub_cancel]) u2_e rfl
theorem t_clock (h : CI n Z F g A) {t : Nat} (ht : t < 4) : TL Γ M_X9_clock [.int (nI t)] Z [xIO] (F 105 t) (thr F (nI 0)) := by
  have h0 := h
  obtain ⟨hH, ⟨hPI, hPG, hZo⟩, ⟨hZh, hZd, hZw⟩, ⟨hZt, hZc, hZf⟩, ⟨hZr, hZs, hZl⟩, hZfr, hZbd⟩ := h0
  by_cases z : g 0 t = 0
  · exact K_clockN0 h ht z (by rw [(hPI.2.1 t ht).2.2.2.1.1, (hPI.2.1 t ht).2.2.2.2.1 z]) u2_e rfl
  · exact K_clockN1 h ht z rfl u2_e rfl
theorem t_frameOn (h : CI n Z F g A) {t : Nat} (ht : t < 4) : TL Γ M_X9_frameOn [.int (nI t)] Z [xIO] (F 104 t - nI 1) (thr F (nI 0)) := by
  have h0 := h
  obtain ⟨hH, ⟨hPI, hPG, hZo⟩, ⟨hZh, hZd, hZw⟩, ⟨hZt, hZc, hZf⟩, ⟨hZr, hZs, hZl⟩, hZfr, hZbd⟩ := h0
  have l9 := (hPI.2.1 t ht).2.2.1
  by_cases z : g 1 t = 0
  · exact K_frameOnN0 h ht z (by rw [l9.1, z]; decide) u2_e rfl
  · exact K_frameOnN1 h ht z (by omega) (by rw [l9.1, pk_sub (by omega)]) u2_e rfl
theorem t_owes (h : CI n Z F g A) {c : Nat} (hc : c < 8) : TL Γ M_X9_owes [.int (nI c)] Z [xIO] (owe F c) (thr F (nI 0)) := by
  have h0 := h
  obtain ⟨hH, ⟨hPI, hPG, hZo⟩, ⟨hZh, hZd, hZw⟩, ⟨hZt, hZc, hZf⟩, ⟨hZr, hZs, hZl⟩, hZfr, hZbd⟩ := h0
  exact K_owesN h hc rfl u2_e rfl
theorem t_owesAnew (h : CI n Z F g A) {c : Nat} (hc : c < 8) : TL Γ M_X9_owesAnew [.int (nI c)] Z [xIO] (owe F c) (thr F (nI 0)) := by
  have h0 := h
  obtain ⟨hH, ⟨hPI, hPG, hZo⟩, ⟨hZh, hZd, hZw⟩, ⟨hZt, hZc, hZf⟩, ⟨hZr, hZs, hZl⟩, hZfr, hZbd⟩ := h0
  exact K_owesAnewN h hc rfl u2_e rfl
theorem t_wins (h : CI n Z F g A) {c : Nat} (hc : c < 8) : TL Γ M_X9_wins [.int (nI c)] Z [xIO] (nI (wN F (g 16 0) c)) (thr F (nI 0)) := by
  have h0 := h
  obtain ⟨hH, ⟨hPI, hPG, hZo⟩, ⟨hZh, hZd, hZw⟩, ⟨hZt, hZc, hZf⟩, ⟨hZr, hZs, hZl⟩, hZfr, hZbd⟩ := h0
  exact K_winsN h hc rfl u2_e rfl
theorem t_cueOf (h : CI n Z F g A) {c : Nat} (hc : c < 8) : TL Γ M_X9_cueOf [.int (nI c)] Z [xIO] (lastW (fun k => F 107 k = nI (c + 1)) 6) (thr F (nI 0)) := by
  have h0 := h
  obtain ⟨hH, ⟨hPI, hPG, hZo⟩, ⟨hZh, hZd, hZw⟩, ⟨hZt, hZc, hZf⟩, ⟨hZr, hZs, hZl⟩, hZfr, hZbd⟩ := h0
  by_cases z : lastW (fun k => F 107 k = nI (c + 1)) 6 = -1
  · exact K_cueOfN0 h hc z z.symm u2_e rfl
  · obtain ⟨u, hu, he, e9⟩ := lastW_yes z
    exact K_cueOfN1 h hc hu he e9.symm u2_e rfl
theorem t_rank (h : CI n Z F g A) {c : Nat} (hc : c < 8) : TL Γ M_X9_rank [.int (nI c)] Z [xIO] (nI (cnt (fun k => wN F (g 16 0) c < wN F (g 16 0) k) 8)) (thr F (nI 0)) := by
  have h0 := h
  obtain ⟨hH, ⟨hPI, hPG, hZo⟩, ⟨hZh, hZd, hZw⟩, ⟨hZt, hZc, hZf⟩, ⟨hZr, hZs, hZl⟩, hZfr, hZbd⟩ := h0
  exact K_rankN h hc rfl u2_e rfl
theorem t_wear (h : CI n Z F g A) {u : Nat} (hu : u < 6) : TL Γ M_X9_wear [.int (nI u)] Z [xIO] (F 108 u) (thr F (nI 0)) := by
  have h0 := h
  obtain ⟨hH, ⟨hPI, hPG, hZo⟩, ⟨hZh, hZd, hZw⟩, ⟨hZt, hZc, hZf⟩, ⟨hZr, hZs, hZl⟩, hZfr, hZbd⟩ := h0
  exact K_wearN h hu rfl u2_e rfl
theorem t_force (h : CI n Z F g A) {c : Nat} (hc : c < 8) {z : Int32} (hz : nI 1 ≤ z ∧ z ≤ nI 40) : TL Γ M_X9_force [.int (nI c), .int z] Z [xIO, xIA] (forceF F c z) (thr F (nI 0)) := by
  have h0 := h
  obtain ⟨hH, ⟨hPI, hPG, hZo⟩, ⟨hZh, hZd, hZw⟩, ⟨hZt, hZc, hZf⟩, ⟨hZr, hZs, hZl⟩, hZfr, hZbd⟩ := h0
  by_cases w : lastW (fun k => F 107 k = nI (c + 1)) 6 = -1
  · exact K_forceN0 h hc hz w (if_pos w : forceF F c z = _).symm u2_e rfl
  · obtain ⟨u, hu, he, e9⟩ := lastW_yes w
    refine K_forceN1 h hc hu hz he ?_ u2_e rfl
    have q : forceF F c z = clip1 (z * (nI 200 - F 108 (lastW (fun k => F 107 k = nI (c + 1)) 6).toNatClampNeg) / nI 200) := if_neg w
    rw [q, e9, nI_clamp (by omega)]
theorem t_winner (h : CI n Z F g A) {f : Nat} (hf : f < g 16 0) : TL Γ M_X9_winner [.int (nI f)] Z [xIO] (F 117 f) (thr F (nI 0)) := by
  have h0 := h
  obtain ⟨hH, ⟨hPI, hPG, hZo⟩, ⟨hZh, hZd, hZw⟩, ⟨hZt, hZc, hZf⟩, ⟨hZr, hZs, hZl⟩, hZfr, hZbd⟩ := h0
  exact K_winnerN h hf rfl u2_e rfl
theorem t_isFree (h : CI n Z F g A) {f : Nat} (hf : f < g 16 0) : TL Γ M_X9_isFree [.int (nI f)] Z [xIO] (F 116 f) (thr F (nI 0)) := by
  have h0 := h
  obtain ⟨hH, ⟨hPI, hPG, hZo⟩, ⟨hZh, hZd, hZw⟩, ⟨hZt, hZc, hZf⟩, ⟨hZr, hZs, hZl⟩, hZfr, hZbd⟩ := h0
  exact K_isFreeN h hf rfl u2_e rfl
theorem t_ballOn (h : CI n Z F g A) {f : Nat} (hf : f < g 16 0) : TL Γ M_X9_ballOn [.int (nI f)] Z [xIO] (lowF F f) (thr F (nI 0)) := by
  have h0 := h
  obtain ⟨hH, ⟨hPI, hPG, hZo⟩, ⟨hZh, hZd, hZw⟩, ⟨hZt, hZc, hZf⟩, ⟨hZr, hZs, hZl⟩, hZfr, hZbd⟩ := h0
  exact K_ballOnN h hf rfl u2_e rfl
theorem t_points (h : CI n Z F g A) {f : Nat} (hf : f < g 16 0) {z : Int32} : TL Γ M_X9_points [.int (nI f), .int z] Z [xIO] (F 115 (2 * f + if z = 0 then 0 else 1)) (thr F (nI 0)) := by
  have h0 := h
  obtain ⟨hH, ⟨hPI, hPG, hZo⟩, ⟨hZh, hZd, hZw⟩, ⟨hZt, hZc, hZf⟩, ⟨hZr, hZs, hZl⟩, hZfr, hZbd⟩ := h0
  by_cases hz : z = 0
  · exact K_pointsN0 h hf hz (by rw [if_pos hz]; rfl) u2_e rfl
  · exact K_pointsN1 h hf hz (by rw [if_neg hz]) u2_e rfl
theorem t_turn (h : CI n Z F g A) {f : Nat} (hf : f < g 16 0) : TL Γ M_X9_turn [.int (nI f)] Z [xIO] (if F 113 f = nI 2 then -1 else F 111 (2 * f + g 22 f)) (thr F (nI 0)) := by
  have h0 := h
  obtain ⟨hH, ⟨hPI, hPG, hZo⟩, ⟨hZh, hZd, hZw⟩, ⟨hZt, hZc, hZf⟩, ⟨hZr, hZs, hZl⟩, hZfr, hZbd⟩ := h0
  have hFr := hPI.2.2.2.2.1 f hf
  rcases hFr.2.2 with q | q | q
  · exact K_turnN0 h hf q.2.1 (by rw [if_pos q.1]) u2_e rfl
  · exact K_turnN1 h hf q.2.1 (by rw [if_neg (by rw [q.1]; decide)]) u2_e rfl
  · exact K_turnN1 h hf q.2.1 (by rw [if_neg (by rw [q.1]; decide)]) u2_e rfl
theorem t_state (h : CI n Z F g A) {f : Nat} (hf : f < g 16 0) : TL Γ M_X9_state [.int (nI f)] Z [xIO] (F 113 f) (thr F (nI 0)) := by
  have h0 := h
  obtain ⟨hH, ⟨hPI, hPG, hZo⟩, ⟨hZh, hZd, hZw⟩, ⟨hZt, hZc, hZf⟩, ⟨hZr, hZs, hZl⟩, hZfr, hZbd⟩ := h0
  have hFr := hPI.2.2.2.2.1 f hf
  rcases hFr.2.2 with q | q | q
  · exact K_stateN2 h hf q.2.1 q.1.symm u2_e rfl
  · exact K_stateN1 h hf q.2.1 q.2.2.1 q.1.symm u2_e rfl
  · exact K_stateN0 h hf q.2.1 (by omega) q.1.symm u2_e rfl
theorem t_cell (h : CI n Z F g A) {f : Nat} (hf : f < g 16 0) {b : Nat} (hb : b < 8) : TL Γ M_X9_cell [.int (nI f), .int (nI b)] Z [xIO] (F 118 (8 * f + b)) (thr F (nI 0)) := by
  have h0 := h
  obtain ⟨hH, ⟨hPI, hPG, hZo⟩, ⟨hZh, hZd, hZw⟩, ⟨hZt, hZc, hZf⟩, ⟨hZr, hZs, hZl⟩, hZfr, hZbd⟩ := h0
  exact K_cellN h hf hb rfl u2_e rfl
theorem t_contacts (hG : GS Γ) (h : CI n Z F g A) {f d : Nat} {z : Int32} (hf : f < g 16 0) (d8 : d < 8) (hz : nI 1 ≤ z ∧ z ≤ nI 40) : Tt Γ M_X9_contacts [.ref 800000, .int (nI f), .int (nI d), .int z] Z (QVo (PC n F g A) Z (mShot (thr (thr F (nI 0)) (nI 0)) f d z) (mShot (thr (thr F (nI 0)) (nI 0)) f d z 23 0)) (QXo (PC n F g A) Z (mShot (thr (thr F (nI 0)) (nI 0)) f d z) [xIO, xIA]) := by
  have hH := h.1
  have hF : FQ F (thr (thr F (nI 0)) (nI 0)) := ((FQ.refl F).thr _).thr _
  obtain ⟨A', a1, a2, a3⟩ := run_Z0 hG h hF (z := z) hf d8
  refine K_contacts hH (K_cOf0N h hf d8 hz a3 a1.2.2.1 rfl ((mShot_o (by decide)).trans u2_e) ?_)
  exact h.wBc (by decide) (by decide) (by decide) A'
theorem t_contactsByPairs (hG : GS Γ) (h : CI n Z F g A) {f d : Nat} {z : Int32} (hf : f < g 16 0) (d8 : d < 8) (hz : nI 1 ≤ z ∧ z ≤ nI 40) : Tt Γ M_X9_contactsByPairs [.ref 800000, .int (nI f), .int (nI d), .int z] Z (QVo (PC n F g A) Z (mShot (thr (thr F (nI 0)) (nI 0)) f d z) (mShot (thr (thr F (nI 0)) (nI 0)) f d z 23 0)) (QXo (PC n F g A) Z (mShot (thr (thr F (nI 0)) (nI 0)) f d z) [xIO, xIA]) := by
  have hH := h.1
  have hF : FQ F (thr (thr F (nI 0)) (nI 0)) := ((FQ.refl F).thr _).thr _
  obtain ⟨A', a1, a2, a3⟩ := run_Z4 hG h hF (z := z) hf d8
  refine K_contactsByPairs hH (K_cOf4N h hf d8 hz a3 a1.2.2.1 rfl ((mShot_o (by decide)).trans u2_e) ?_)
  exact h.wBc (by decide) (by decide) (by decide) A'
theorem t_minute (h : CI n Z F g A) : Tn Γ M_X9_minute [.ref 800000] Z (rt (some (.int (F 0 0))) Z) := K_minute h
theorem t_frames (h : CI n Z F g A) : Tn Γ M_X9_frames [.ref 800000] Z (rt (some (.int (F 10 0))) Z) := K_frames h
theorem m_setPrice (h : CI n Z F g A) (hn : n < 512) {x : Int32} (hx : nI 0 ≤ x ∧ x ≤ nI 50) : MU Γ n M_X9_setPrice [.int x] Z [xIA] (F 1 0) (u2 (thr F (nI 0)) 1 0 x) := by
  exact K_setPriceN h hx rfl rfl ⟨rF_sI (by decide), _, _, CIu_price h hn x⟩
theorem m_mend (h : CI n Z F g A) (hn : n < 512) {t : Nat} (ht : t < 4) : MU Γ n M_X9_mend [.int (nI t)] Z [xIO, xIS] (mMend F t).1 (mMend F t).2 := by
  by_cases e : F 102 t = 0
  · rw [show mMend F t = _ from if_pos e]
    exact K_mendY h ht e rfl (Nx.same h hn (((FQ.refl F).thr _).thr _))
  · rw [show mMend F t = _ from if_neg e]
    have hO := CIu_open h hn ht (v := nI 0) (Or.inl rfl)
    exact K_mendN h ht e hO (congrArg nI (cnt_congr (fun j _ => Iff.rfl))) rfl ⟨rF_sI (by decide), _, _, hO⟩
theorem m_tip (h : CI n Z F g A) (hn : n < 512) {u : Nat} (hu : u < 6) : MU Γ n M_X9_tip [.int (nI u)] Z [xIO, xIS] (mTip F u).1 (mTip F u).2 := by
  have e0 := (h.2.1.1.2.2.1 u hu).1
  by_cases e : g 4 u = 0
  · rw [show mTip F u = _ from if_pos (by rw [e0.1, e]; decide)]
    exact K_tipN h hu e rfl rfl ⟨rF_sI (by decide), _, _, CIu_tip h hn hu e⟩
  · rw [show mTip F u = _ from if_neg (by rw [e0.1]; exact nI_nle (by omega) (by omega))]
    exact K_tipY h hu e rfl (Nx.same h hn (((FQ.refl F).thr _).thr _))
theorem m_lend (h : CI n Z F g A) (hn : n < 512) {u c : Nat} (hu : u < 6) (hc : c < 8) : MU Γ n M_X9_lend [.int (nI u), .int (nI c)] Z [xIO, xIS] (mLend F u c).1 (mLend F u c).2 := by
  have e0 := (h.2.1.1.2.2.1 u hu).1
  have hb9 := h.2.2.2.2.2.2
  unfold Zbd at hb9
  unfold mLend
  by_cases e : g 4 u = 0
  · rw [if_neg (by rw [e0.1, e]; decide)]
    by_cases w : lastW (fun k => F 107 k = nI (c + 1)) 6 = -1
    · rw [if_pos (by rw [w]; decide)]
      exact K_lendN h hu hc hn e w rfl rfl ⟨rF_lend (by omega), _, _, CIu_lend h hn hu hc e w⟩
    · obtain ⟨v, hv, he, e9⟩ := lastW_yes w
      rw [if_neg (by rw [e9]; exact nI_pos (by omega))]
      exact K_lendW h hu hc e hv he rfl (Nx.same h hn (((FQ.refl F).thr _).thr _))
  · rw [if_pos (by rw [e0.1]; show nI 0 < nI (g 4 u); exact nI_lt (by omega) (by omega))]
    exact K_lendV h hu hc e rfl (Nx.same h hn (((FQ.refl F).thr _).thr _))
theorem m_takeBack (h : CI n Z F g A) (hn : n < 512) {u : Nat} (hu : u < 6) : MU Γ n M_X9_takeBack [.int (nI u)] Z [xIO, xIS] (mBack F u (g 4 u)).1 (mBack F u (g 4 u)).2 := by
  have e0 := (h.2.1.1.2.2.1 u hu).1
  by_cases e : g 4 u = 0
  · rw [show mBack F u (g 4 u) = _ from if_pos e]
    exact K_takeBackY h hu e rfl (Nx.same h hn (((FQ.refl F).thr _).thr _))
  · rw [show mBack F u (g 4 u) = _ from if_neg e]
    exact K_takeBackN h hu e rfl rfl ⟨rF_back, _, _, CIu_back h hn hu e⟩
theorem m_rent (h : CI n Z F g A) (hn : n < 512) {t c : Nat} (ht : t < 4) (hc : c < 8) : MU Γ n M_X9_rent [.int (nI t), .int (nI c)] Z [xIO, xIS] (mRent F t c).1 (mRent F t c).2 := by
  have e0 := (h.2.1.1.2.1 t ht).2.1
  have hb9 := h.2.2.2.2.2.2
  unfold Zbd at hb9
  unfold mRent
  by_cases ho : F 102 t = 0
  · rw [if_pos ho]
    by_cases e : g 0 t = 0
    · rw [if_neg (by rw [e0.1, e]; decide)]
      by_cases w : anyB (fun k => F 103 k = nI (c + 1)) 4 = true
      · rw [if_neg ((anyB_n (by decide)).mp w)]
        exact K_rentW h ht hc ho e w rfl (Nx.same h hn (((FQ.refl F).thr _).thr _))
      · rw [if_pos (Decidable.not_not.mp (fun q => w ((anyB_n (by decide)).mpr q)))]
        have hO := CIu_rent h hn ht hc e
        exact K_rentN h ht hc hn ho e w hO (congrArg nI (cnt_congr (fun j _ => Iff.rfl))) rfl ⟨rF_rent (by omega), _, _, hO⟩
    · rw [if_pos (by rw [e0.1]; show nI 0 < nI (g 0 t); exact nI_lt (by omega) (by omega))]
      exact K_rentV h ht hc ho e rfl (Nx.same h hn (((FQ.refl F).thr _).thr _))
  · rw [if_neg ho]
    exact K_rentU h ht hc ho rfl (Nx.same h hn (((FQ.refl F).thr _).thr _))
theorem m_pass (h : CI n Z F g A) (hn : n < 512) {m : Nat} (hm1 : 1 ≤ m) (hm2 : m ≤ 200) (hm : g 15 0 + m ≤ 10000) : MU Γ n M_X9_pass [.int (nI m)] Z [xIA, xIS] (pN F (g 1) (nI m) 4) (pF (pG F (nI m)) (g 1) (nI m) 4) := by
  have hx : nI 1 ≤ nI m ∧ nI m ≤ nI 200 := ⟨nI_le hm1 (by omega), nI_le hm2 (by decide)⟩
  have m2 : m < 201 := by omega
  exact K_passN h hx hm rfl ((pF_o (Or.inl (by decide))).trans rfl) ⟨ps_R.2.2.2.2.2.trans (rF_sI (by decide)), _, _, CIu_pass h hn hm⟩
theorem r_passY (h : CI n Z F g A) {m : Nat} (hm1 : 1 ≤ m) (hm2 : m ≤ 200) (hm : ¬ g 15 0 + m ≤ 10000) : TL Γ M_X9_pass [.int (nI m)] Z [xIA, xIS] (nI 0) (thr F (nI 2)) := by
  have hx : nI 1 ≤ nI m ∧ nI m ≤ nI 200 := ⟨nI_le hm1 (by omega), nI_le hm2 (by decide)⟩
  exact K_passY h hx (by omega) hm u2_e rfl
theorem m_end (h : CI n Z F g A) (hn : n < 512) {t : Nat} (ht : t < 4) : MU Γ n M_X9_end [.int (nI t)] Z [xIO, xIS] (mEnd F t (g 0 t) (g 1 t)).1 (mEnd F t (g 0 t) (g 1 t)).2 := by
  have hPI := h.2.1.1
  have e0 := hPI.2.1 t ht
  by_cases e : g 0 t = 0
  · rw [show mEnd F t (g 0 t) (g 1 t) = _ from if_pos e]
    exact K_endY h ht e rfl (Nx.same h hn (((FQ.refl F).thr _).thr _))
  · rw [show mEnd F t (g 0 t) (g 1 t) = _ from if_neg e]
    obtain ⟨L, g', A', a1, a2, a3⟩ := endR_ok (Γ := Γ) ((((FQ.refl F).thr (nI 0)).thr (nI 0)).CI h) ht
    refine K_endN h ht e a3 rfl ?_ ⟨a2, g', A', a1.step hn⟩
    rw [show mEnds (thr (thr F (nI 0)) (nI 0)) t (g 0 t) (g 1 t) = _ from if_neg e]
    show (if _ then mClears _ t (g 1 t) else _) 25 0 = nI 0
    split
    · rw [cl_o (by decide)]; exact (u2_s (by decide)).trans ((u2_s (by decide)).trans ((u2_s (by decide)).trans u2_e))
    · exact (u2_s (by decide)).trans ((u2_s (by decide)).trans ((u2_s (by decide)).trans u2_e))
theorem m_tear (h : CI n Z F g A) (hn : n < 512) {t : Nat} (ht : t < 4) : MU Γ n M_X9_tear [.int (nI t)] Z [xIO, xIS] (mTear F t (g 0 t) (g 1 t)).1 (mTear F t (g 0 t) (g 1 t)).2 := by
  have hPI := h.2.1.1
  have e0 := hPI.2.1 t ht
  by_cases e : F 102 t = 0
  · rw [show mTear F t (g 0 t) (g 1 t) = _ from if_pos e]
    obtain ⟨L, g', A', a1, a2, a3⟩ := endR_ok (Γ := Γ) ((((FQ.refl F).thr (nI 0)).thr (nI 0)).CI h) ht
    obtain ⟨M, g2, b1, b2', -, b3⟩ := off_ok (Γ := Γ) a1 ht
    have e1 := a1.2.1.1.2.1 t ht
    have e20 := a1.2.1.1.1.2.2
    have ec : ((mEnds (thr (thr F (nI 0)) (nI 0)) t (g 0 t) (g 1 t)).2 104 t).toNatClampNeg = g' 1 t := by
      rw [e1.2.2.1.1, nI_clamp (by have := e1.2.2.1.2; omega)]
    rw [ec]
    have c1 := CIu_open0 b1 ht (v := nI 1) (Or.inr rfl)
    refine K_tearN h ht e a3 a1.1 b3 b1.1 rfl ?_ ⟨(rF_sI (by decide)).trans (b2'.trans a2), g2, A', c1.step hn⟩
    show u2 (mClears (mEnds (thr (thr F (nI 0)) (nI 0)) t (g 0 t) (g 1 t)).2 t (g' 1 t)) 102 t (nI 1) 25 0 = nI 0
    rw [u2_s (by decide), cl_o (by decide)]
    unfold mEnds
    split
    · exact (u2_e : thr (thr F (nI 0)) (nI 0) 25 0 = nI 0)
    · show (if _ then mClears _ t (g 1 t) else _) 25 0 = nI 0
      split
      · rw [cl_o (by decide)]; exact (u2_s (by decide)).trans ((u2_s (by decide)).trans ((u2_s (by decide)).trans u2_e))
      · exact (u2_s (by decide)).trans ((u2_s (by decide)).trans ((u2_s (by decide)).trans u2_e))
  · rw [show mTear F t (g 0 t) (g 1 t) = _ from if_neg e]
    exact K_tearY h ht e rfl (Nx.same h hn (((FQ.refl F).thr _).thr _))
theorem m_resume (h : CI n Z F g A) (hn : n < 512) {f t : Nat} (hf : f < g 16 0) (ht : t < 4) : MU Γ n M_X9_resume [.int (nI f), .int (nI t)] Z [xIO, xIS] (mResume F f t (g 20 f) (g 21 f) (g 22 f)).1 (mResume F f t (g 20 f) (g 21 f) (g 22 f)).2 := by
  have h0 := h
  obtain ⟨hH, ⟨hPI, hPG, hZo⟩, -⟩ := h0
  have f20 := hPI.1.2.2
  have fr := hPI.2.2.2.2.1 f hf
  unfold mResume
  rcases fr.2.2 with q | q | q
  · rw [if_neg (by rw [q.1]; decide)]
    exact K_resumeU h hf ht q.2.2 q.2.1 rfl (Nx.same h hn (((FQ.refl F).thr _).thr _))
  · rw [if_pos q.1]
    by_cases hp : F 102 t = 0 ∧ F 104 t = 0 ∧ (¬ F 112 f = 0 ∨ (F 103 t = nI (g 20 f + 1) ∨ F 103 t = nI (g 21 f + 1)))
    · rw [if_pos hp]
      obtain ⟨L, g', a1, a2, a3, a4, a5⟩ := on_ok (Γ := Γ) ((((FQ.refl F).thr (nI 0)).thr (nI 0)).CI h) hn ht hf ((place_g hPI ht).mp hp.2.1) q.1
      have hf' : f < g' 16 0 := by rw [a4]; exact hf
      have hD := D_player (Γ := Γ) a1 hf'
      refine K_resumeN h hf ht q.2.2.1 q.2.1 hp.1 ((place_g hPI ht).mp hp.2.1) hp.2.2 a5 (a1.2.2.2.1.2.2 f hf').1.1 hD ?_ ?_ ⟨a2, g', A, a1⟩
      · rw [a3 22 (by decide) (by decide), on_o (by decide)]
        rfl
      · show onF (thr (thr F (nI 0)) (nI 0)) t f 25 0 = nI 0
        rw [on_o (by decide)]
        exact u2_e
    · rw [if_neg hp]
      exact K_resumeW h hf ht q.2.2.1 q.2.1 (fun w => hp ⟨w.1, (place_g hPI ht).mpr w.2.1, w.2.2⟩) rfl (Nx.same h hn (((FQ.refl F).thr _).thr _))
  · rw [if_neg (by rw [q.1]; decide)]
    exact K_resumeV h hf ht (by omega) rfl (Nx.same h hn (((FQ.refl F).thr _).thr _))
theorem m_begin (hG : GS Γ) (h : CI n Z F g A) (hn : n < 512) {t a c : Nat} {z : Int32} (ht : t < 4) (ha : a < 8) (hc : c < 8) (hz : z = 0 ∨ z = 1) : MU Γ n M_X9_begin [.int (nI t), .int (nI a), .int (nI c), .int z] Z [xIO, xIA, xIS] (mBegin F t a c (g 16 0) z).1 (mBegin F t a c (g 16 0) z).2 := by
  have h0 := h
  obtain ⟨hH, ⟨hPI, hPG, hZo⟩, -⟩ := h0
  have b20 := hPI.1.2.2
  unfold mBegin
  by_cases hab : a = c
  · rw [if_pos hab]
    exact K_beginU h ht ha hc hab rfl (Nx.same h hn (((FQ.refl F).thr _).thr _))
  · rw [if_neg hab]
    by_cases h20 : g 16 0 < 20
    · rw [if_neg (show ¬ g 16 0 = 20 by omega)]
      by_cases hp : F 102 t = 0 ∧ F 104 t = 0 ∧ (¬ z = 0 ∨ (F 103 t = nI (a + 1) ∨ F 103 t = nI (c + 1)))
      · rw [if_pos hp]
        have hg := (place_g hPI ht).mp hp.2.1
        have c1 := CIu_new h (C := (gt Γ 0).2.2) ha hc hz h20 hG.1.2
        obtain ⟨L, g', a1, a2, a3, a4, a5⟩ := on_ok (Γ := Γ) c1 hn ht (f := g 16 0) (by rw [wG_16]; omega) (by rw [wG_o (by decide)]; exact hg) nF_113
        rw [beg_F (hPI.2.2.2.2.2 _ (Nat.le_refl _)).1] at a1
        have hf' : g 16 0 < g' 16 0 := by rw [a4, wG_16]; omega
        have f1 := a1.2.2.2.1.2.2 _ hf'
        refine K_beginN h hG ht ha hc hz hab h20 hp.1 hg hp.2.2 c1.1 a5 f1.1.1 f1.2.2.1.1 rfl ?_ ⟨a2.trans ?_, g', A, a1⟩
        · show u2 (bF (mB0 F a c (g 16 0) z) (g 16 0) 8) 104 t (nI (g 16 0 + 1)) 25 0 = nI 0
          rw [u2_s (by decide), bF_o (Or.inl (by decide))]
          unfold mB0
          rw [u2_s (by decide), u2_s (by decide), u2_s (by decide), u2_s (by decide), u2_s (by decide)]
          exact u2_e
        · unfold fnZ nA nO
          rw [rF_sI (by decide), rF_sP, rF_sI (by decide), rF_sI (by decide), rF_sI (by decide), rF_sI (by decide), rF_sI (by decide), rF_sR, rF_nX (by omega) (by omega), rF_nX (by omega) (by omega)]
      · rw [if_neg hp]
        exact K_beginW h ht ha hc hab h20 (fun w => hp ⟨w.1, (place_g hPI ht).mpr w.2.1, w.2.2⟩) rfl (Nx.same h hn (((FQ.refl F).thr _).thr _))
    · rw [if_pos (show g 16 0 = 20 by omega)]
      exact K_beginV h ht ha hc hab h20 rfl (Nx.same h hn (((FQ.refl F).thr _).thr _))
/-- the numbers behind the roll of a shot, the tip worn -/
def shW (F : FT) (f d c : Nat) (z : Int32) : FT := if lastW (fun k => F 107 k = nI (c + 1)) 6 = -1 then (mShot (thr (thr F (nI 0)) (nI 0)) f d (forceF (thr (thr F (nI 0)) (nI 0)) c z)) else u2 (mShot (thr (thr F (nI 0)) (nI 0)) f d (forceF (thr (thr F (nI 0)) (nI 0)) c z)) 108 (lastW (fun k => F 107 k = nI (c + 1)) 6).toNatClampNeg (wearF (F 108 (lastW (fun k => F 107 k = nI (c + 1)) 6).toNatClampNeg) z)
theorem m_shoot (hG : GS Γ) (h : CI n Z F g A) (hn : n < 512) {f d c : Nat} {z : Int32} (hf : f < g 16 0) (d8 : d < 8) (hz : nI 1 ≤ z ∧ z ≤ nI 40) (hs : F 113 f = nI 0) (c8 : c < 8) (ec : F 111 (2 * f + g 22 f) = nI c) : MU Γ n M_X9_shoot [.int (nI f), .int (nI d), .int z] Z [xIO, xIA, xIS] (mShE (shW F f d c z) f (g 22 f) (lowF F f)).1 (mShE (shW F f d c z) f (g 22 f) (lowF F f)).2 := by
  have h0 := h
  obtain ⟨hH, ⟨hPI, hPG, hZo⟩, ⟨hZh, hZd, hZw⟩, ⟨hZt, hZc, hZf⟩, hr⟩ := h0
  have f20 := hPI.1.2.2
  obtain ⟨m, m40, em⟩ := in_nat (m := 40) (by decide) ⟨Int32.le_trans (by decide) hz.1, hz.2⟩
  have fr := hPI.2.2.2.2.1 f hf
  have fr3 : F 117 f = -1 ∧ ¬ lowF F f = -1 ∧ 1 ≤ g 23 f ∧ g 23 f ≤ 4 ∧ g 1 (g 23 f - 1) = f + 1 := by
    rcases fr.2.2 with q | q | q
    · exact absurd (hs.symm.trans q.1) (by decide)
    · exact absurd (hs.symm.trans q.1) (by decide)
    · exact q.2
  have ht0 : g 23 f ≠ 0 := by omega
  have ht4 : g 23 f - 1 < 4 := by omega
  have hF : FQ F (thr (thr F (nI 0)) (nI 0)) := ((FQ.refl F).thr _).thr _
  obtain ⟨A', r1', r2', r3⟩ := run_Z0 hG h hF (z := forceF (thr (thr F (nI 0)) (nI 0)) c z) hf d8
  have hFW : FQ F (mShot (thr (thr F (nI 0)) (nI 0)) f d (forceF (thr (thr F (nI 0)) (nI 0)) c z)) := hF.shot
  have cw : CI n (wB 0 10 1000010 Z A') (mShot (thr (thr F (nI 0)) (nI 0)) f d (forceF (thr (thr F (nI 0)) (nI 0)) c z)) g A := hFW.CI (h.wBc (by decide) (by decide) (by decide) A')
  have hO := RO_wB hH.2.1.1 r1'
  have hKV : KV (fun k => (mShot (thr (thr F (nI 0)) (nI 0)) f d (forceF (thr (thr F (nI 0)) (nI 0)) c z)) 118 (8 * f + k)) (mShot (thr (thr F (nI 0)) (nI 0)) f d (forceF (thr (thr F (nI 0)) (nI 0)) c z)) := by
    have q := KV_shot (F := thr (thr F (nI 0)) (nI 0)) (z := forceF (thr (thr F (nI 0)) (nI 0)) c z) fr.2.1.1 d8 fr.2.1.2.1
    have e : (fun k => (mShot (thr (thr F (nI 0)) (nI 0)) f d (forceF (thr (thr F (nI 0)) (nI 0)) c z)) 118 (8 * f + k)) = (fun k => thr (thr F (nI 0)) (nI 0) 118 (8 * f + k)) := funext (fun k => mShot_o (by decide))
    rw [e]
    exact q
  have h25 : (mShot (thr (thr F (nI 0)) (nI 0)) f d (forceF (thr (thr F (nI 0)) (nI 0)) c z)) 25 0 = nI 0 := (mShot_o (by decide)).trans u2_e
  have kz1 : xK (wB 0 10 1000010 Z A') (200000 + f) = 2 := (hZf f hf).1.1
  have r1 : rF (wB 0 10 1000010 Z A') = rF Z := rF_wB (by decide) (by decide)
  by_cases w : lastW (fun k => F 107 k = nI (c + 1)) 6 = -1
  · have efo : clip1 (nI 3 * z / nI 4) = forceF (thr (thr F (nI 0)) (nI 0)) c z := (if_pos w : forceF (thr (thr F (nI 0)) (nI 0)) c z = _).symm
    generalize hWW : (mShot (thr (thr F (nI 0)) (nI 0)) f d (forceF (thr (thr F (nI 0)) (nI 0)) c z)) = W at *
    have hs2 : W 113 f = nI 0 := (hFW 113 f (by decide) (by decide)).trans hs
    obtain ⟨st, sL, kL, rL, tl⟩ := shot_tail (Γ := Γ) hG cw hf hs2 r2' hKV hO
    have elow : lowF W f = lowF F f := lowA_congr (fun k _ => by rw [hFW 118 _ (by decide) (by decide)])
    rw [elow] at st tl sL kL rL
    rw [show shW F f d c z = _ from if_pos w, hWW]
    have h25 := shE_25 (f := f) (u := g 22 f) (on := lowF F f) h25
    rcases tl with ⟨t1, g', t2⟩ | ⟨t1, L2, L3, g', t2, t3, t4, t5, t6, t7, t8, t9⟩
    · exact K_shoot00N h hf d8 hz ht0 ht4 ec c8 w efo r3 kz1 cw.1 st kL sL t1 rfl h25 ⟨rL.trans r1, g', A, t2.step hn⟩
    · exact K_shoot01N h hf d8 hz ht0 ht4 ec c8 w efo r3 kz1 cw.1 st kL sL t1 t2 t3 t4 t5 t6 t7 rfl h25 ⟨t8.trans r1, g', A, t9.step hn⟩
  · obtain ⟨u, hu, he, e9⟩ := lastW_yes w
    have efo : clip1 (z * (nI 200 - F 108 u) / nI 200) = forceF (thr (thr F (nI 0)) (nI 0)) c z := by
      have q : forceF (thr (thr F (nI 0)) (nI 0)) c z = clip1 (z * (nI 200 - F 108 (lastW (fun k => F 107 k = nI (c + 1)) 6).toNatClampNeg) / nI 200) := if_neg w
      rw [q, e9, nI_clamp (by omega)]
    generalize hWW : (mShot (thr (thr F (nI 0)) (nI 0)) f d (forceF (thr (thr F (nI 0)) (nI 0)) c z)) = W at *
    obtain ⟨ww, ww1, ww2⟩ := (hPI.2.2.1 u hu).2
    obtain ⟨k, k1, ek⟩ := wearF_n (m := m) ww1 (by omega)
    rw [← ww2, ← em] at ek
    have cv := CIu_wear cw hu k1
    rw [← ek] at cv
    have k1u : xK (wB 0 10 1000010 Z A') (100000 + u) = 1 := (hH.2.2.2.1 u hu).1
    have i1u : xI (wB 0 10 1000010 Z A') 1 0 (100000 + u) = F 108 u := (cw.2.2.2.1.2.1 u hu).1.trans (hFW 108 _ (by decide) (by decide))
    have kz2 : xK (sI (wB 0 10 1000010 Z A') 1 0 (100000 + u) (wearF (F 108 u) z)) (200000 + f) = 2 := kz1
    have sz2 := cv.1
    have r2 : rF (sI (wB 0 10 1000010 Z A') 1 0 (100000 + u) (wearF (F 108 u) z)) = rF Z := (rF_sI (by decide)).trans r1
    have hs2 : u2 W 108 u (wearF (F 108 u) z) 113 f = nI 0 := (u2_s (by decide)).trans ((hFW 113 f (by decide) (by decide)).trans hs)
    have hO2 : RO (sI (wB 0 10 1000010 Z A') 1 0 (100000 + u) (wearF (F 108 u) z)) (u2 W 108 u (wearF (F 108 u) z)) := (RO_sI1 hO).c (fun j _ => u2_s (by decide)) (u2_s (by decide)) (u2_s (by decide))
    have hJ2 : JV (u2 W 108 u (wearF (F 108 u) z)) := r2'.o (fun k _ => u2_s (by decide)) (r2'.1.o ⟨by decide, by decide⟩) r2'.2.2.1 (u2_s (by decide))
    have hKV2 : KV (fun k => u2 W 108 u (wearF (F 108 u) z) 118 (8 * f + k)) (u2 W 108 u (wearF (F 108 u) z)) := hKV
    obtain ⟨st, sL, kL, rL, tl⟩ := shot_tail (Γ := Γ) hG cv hf hs2 hJ2 hKV2 hO2
    have elow : lowF (u2 W 108 u (wearF (F 108 u) z)) f = lowF F f := lowA_congr (fun k _ => by rw [u2_s (by decide), hFW 118 _ (by decide) (by decide)])
    rw [elow] at st tl sL kL rL
    rw [show shW F f d c z = _ from if_neg w, e9, nI_clamp (by omega), hWW]
    have h25 := shE_25 (V := u2 W 108 u (wearF (F 108 u) z)) (f := f) (u := g 22 f) (on := lowF F f) ((u2_s (by decide)).trans h25)
    rcases tl with ⟨t1, g', t2⟩ | ⟨t1, L2, L3, g', t2, t3, t4, t5, t6, t7, t8, t9⟩
    · exact K_shoot10N h hf d8 hz ht0 ht4 ec c8 hu he efo r3 kz1 cw.1 (C_wearOff k1u i1u z) kz2 sz2 st kL sL t1 rfl h25 ⟨rL.trans r2, g', A, t2.step hn⟩
    · exact K_shoot11N h hf d8 hz ht0 ht4 ec c8 hu he efo r3 kz1 cw.1 (C_wearOff k1u i1u z) kz2 sz2 st kL sL t1 t2 t3 t4 t5 t6 t7 rfl h25 ⟨t8.trans r2, g', A, t9.step hn⟩
  
theorem r_shootV (h : CI n Z F g A) {f d : Nat} {z : Int32} (hf : f < g 16 0) (d8 : d < 8) (hz : nI 1 ≤ z ∧ z ≤ nI 40) (hs : ¬ F 113 f = nI 0) : TL Γ M_X9_shoot [.int (nI f), .int (nI d), .int z] Z [xIO, xIA, xIS] (nI 0) (thr F (nI 3)) := by
  have fr := h.2.1.1.2.2.2.2.1 f hf
  have ht0 : g 23 f = 0 := by
    rcases fr.2.2 with q | q | q
    · exact q.2.2
    · exact q.2.2.1
    · exact absurd q.1 hs
  exact K_shootV h hf d8 hz ht0 u2_e rfl
end OP
