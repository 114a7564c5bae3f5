-- ===== the calls that change nothing =====
theorem wF_self {f p e : Nat} {Z : HS} {D : FT} (h1 : ∀ k, 6 ≤ k → k ≤ 10 → xI Z 2 k p = D (fs k) (fj f k)) (h2 : ∀ j, j < 8 → xA Z e j = D 118 (8 * f + j)) : wF f p e Z D = Z := by
  have e1 : (fun c' k a => if c' = 2 ∧ a = p ∧ 6 ≤ k ∧ k ≤ 10 then D (fs k) (fj f k) else xI Z c' k a) = xI Z := by
    funext c' k a
    split
    · next q => obtain ⟨rfl, rfl, q1, q2⟩ := q; exact (h1 k q1 q2).symm
    · rfl
  have e2 : (fun a i => if a = e ∧ i < 8 then D 118 (8 * f + i) else xA Z a i) = xA Z := by
    funext a i
    split
    · next q => obtain ⟨rfl, q1⟩ := q; exact (h2 i q1).symm
    · rfl
  unfold wF
  rw [e1, e2]
  rfl
theorem CI.wFs {n : Nat} {Z : HS} {F A : FT} {g : GN} (h : CI n Z F g A) {f : Nat} (hf : f < g 16 0) : wF f (200000 + f) (1200000 + f) Z F = Z :=
  wF_self (h.2.2.2.1.2.2 f hf).2.2.2.1.1 (h.2.2.2.1.2.2 f hf).2.2.2.1.2
def rB (c q b : Nat) (Z : HS) : FT := fun s j => if 119 ≤ s then xA Z (b + s) j else xI Z c (27 - s) q
theorem wB_self (c q b : Nat) (Z : HS) : wB c q b Z (rB c q b Z) = Z := by
  have e1 : (fun c' k a => if c' = c ∧ a = q ∧ (k = 4 ∨ k = 5) then rB c q b Z (27 - k) 0 else xI Z c' k a) = xI Z := by
    funext c' k a
    split
    · next w =>
      obtain ⟨rfl, rfl, w⟩ := w
      rcases w with rfl | rfl <;> rfl
    · rfl
  have e2 : (fun a i => if b + 119 ≤ a ∧ a ≤ b + 123 ∧ (c = 0 ∨ a ≤ b + 122) then rB c q b Z (a - b) i else xA Z a i) = xA Z := by
    funext a i
    split
    · next w =>
      unfold rB
      rw [if_pos (by omega), show b + (a - b) = a by omega]
    · rfl
  unfold wB
  rw [e1, e2]
  rfl
theorem CI.wBc {n : Nat} {Z : HS} {F A : FT} {g : GN} (h : CI n Z F g A) {c q b : Nat} (hc : c = 0 ∨ c = 4) (hb : b + 123 < 1800000) (hb2 : b + 123 < 1200000 ∨ 1300000 ≤ b) (B : FT) : CI n (wB c q b Z B) F g A := by
  obtain ⟨hH, ⟨hPI, hPG, hZo⟩, ⟨hZh, hZd, hZw⟩, ⟨hZt, hZc, hZf⟩, ⟨hZr, hZs, hZl⟩, hZfr, hZbd⟩ := h
  have eI : ∀ c' k a, c' ≠ 0 → c' ≠ 4 → xI (wB c q b Z B) c' k a = xI Z c' k a := fun c' k a h1 h2 => if_neg (fun w => by have := w.1; omega)
  have eA : ∀ a i, (1200000 ≤ a ∧ a < 1300000) ∨ 1800000 ≤ a → xA (wB c q b Z B) a i = xA Z a i := fun a i w => wB_Ax (by omega)
  refine ⟨hH, ⟨hPI, hPG, hZo⟩, ⟨?_, fun c hc => ?_, fun c hc => ?_⟩, ⟨fun i hi => ?_, fun u hu => ?_, fun f hf => ?_⟩, ⟨fun j hj => ?_, fun s hs => ?_, fun l hl => ?_⟩, hZfr, hZbd⟩
  · unfold Zh
    rw [eI 8 10 _ (by decide) (by decide), eI 8 11 _ (by decide) (by decide), eI 8 12 _ (by decide) (by decide), eI 8 13 _ (by decide) (by decide), eI 8 14 _ (by decide) (by decide), eI 8 15 _ (by decide) (by decide)]
    exact hZh
  · rw [eA _ _ (Or.inr (by decide))]; exact hZd c hc
  · rw [eA _ _ (Or.inr (by decide))]; exact hZw c hc
  · rw [eI 7 0 _ (by decide) (by decide), eI 7 2 _ (by decide) (by decide)]; exact hZt i hi
  · rw [eI 1 0 _ (by decide) (by decide), eI 3 1 _ (by decide) (by decide), eI 3 2 _ (by decide) (by decide)]; exact hZc u hu
  · obtain ⟨e1, e2, e3, ⟨e4, e5⟩, e6⟩ := hZf f hf
    have f20 := hPI.1.2.2
    rw [eI 2 0 _ (by decide) (by decide), eI 2 1 _ (by decide) (by decide), eI 2 2 _ (by decide) (by decide), eI 2 3 _ (by decide) (by decide)]
    exact ⟨e1, e2, e3, ⟨fun k h1 h2 => (eI 2 k _ (by decide) (by decide)).trans (e4 k h1 h2), fun j hj => (eA _ _ (Or.inl ⟨by omega, by omega⟩)).trans (e5 j hj)⟩, e6⟩
  · rw [eI 5 0 _ (by decide) (by decide), eI 5 1 _ (by decide) (by decide), eI 5 2 _ (by decide) (by decide), eI 5 3 _ (by decide) (by decide), eI 5 4 _ (by decide) (by decide)]; exact hZr j hj
  · rw [eI 6 0 _ (by decide) (by decide), eI 6 1 _ (by decide) (by decide), eI 6 2 _ (by decide) (by decide)]; exact hZs s hs
  · rw [eI 3 0 _ (by decide) (by decide), eI 3 1 _ (by decide) (by decide), eI 3 2 _ (by decide) (by decide)]; exact hZl l hl
theorem D_isOver {Γ : GTy} {n : Nat} {Z : HS} {F A : FT} {g : GN} (h : CI n Z F g A) {f : Nat} (hf : f < g 16 0)  : Tn Γ M_X2_isOver [.ref (200000 + f)] Z (rt (some (.int (b2 (¬ F 117 f = -1)))) Z) := by
  obtain ⟨hH, ⟨hPI, hPG, hZo⟩, ⟨hZh, hZd, hZw⟩, ⟨hZt, hZc, hZf⟩, hr⟩ := id h
  have hP := (hZf f hf).1
  have hFr := hPI.2.2.2.2.1 f hf
  have h9 := C_isOverF (Γ := Γ) (f := f) hP F
  rw [h.wFs hf] at h9
  exact h9
theorem D_isWaitN {Γ : GTy} {n : Nat} {Z : HS} {F A : FT} {g : GN} (h : CI n Z F g A) {f : Nat} (hf : f < g 16 0) (hz : g 23 f = 0) : Tn Γ M_X2_isWaiting [.ref (200000 + f)] Z (rt (some (.int (b2 (F 117 f = -1)))) Z) := by
  obtain ⟨hH, ⟨hPI, hPG, hZo⟩, ⟨hZh, hZd, hZw⟩, ⟨hZt, hZc, hZf⟩, hr⟩ := id h
  have hP := (hZf f hf).1
  have hFr := hPI.2.2.2.2.1 f hf
  have h9 := C_isWaitN (Γ := Γ) (f := f) hP F ((hZf f hf).2.2.2.2.1 hz)
  rw [h.wFs hf] at h9
  exact h9
theorem D_isWaitS {Γ : GTy} {n : Nat} {Z : HS} {F A : FT} {g : GN} (h : CI n Z F g A) {f : Nat} (hf : f < g 16 0) (hz : g 23 f ≠ 0) : Tn Γ M_X2_isWaiting [.ref (200000 + f)] Z (rt (some (.int (nI 0))) Z) := by
  obtain ⟨hH, ⟨hPI, hPG, hZo⟩, ⟨hZh, hZd, hZw⟩, ⟨hZt, hZc, hZf⟩, hr⟩ := id h
  have hP := (hZf f hf).1
  have hFr := hPI.2.2.2.2.1 f hf
  have h9 := C_isWaitS (Γ := Γ) (f := f) hP F ((hZf f hf).2.2.2.2.2 hz)
  rw [h.wFs hf] at h9
  exact h9
theorem D_lowest {Γ : GTy} {n : Nat} {Z : HS} {F A : FT} {g : GN} (h : CI n Z F g A) {f : Nat} (hf : f < g 16 0)  : Tn Γ M_X2_lowestBall [.ref (200000 + f)] Z (rt (some (.int (lowF F f))) Z) := by
  obtain ⟨hH, ⟨hPI, hPG, hZo⟩, ⟨hZh, hZd, hZw⟩, ⟨hZt, hZc, hZf⟩, hr⟩ := id h
  have hP := (hZf f hf).1
  have hFr := hPI.2.2.2.2.1 f hf
  have h9 := C_lowestBall (Γ := Γ) hP F hFr.2.1.1
  rw [h.wFs hf] at h9
  exact h9
theorem D_player {Γ : GTy} {n : Nat} {Z : HS} {F A : FT} {g : GN} (h : CI n Z F g A) {f : Nat} (hf : f < g 16 0)  : Tn Γ M_X2_player [.ref (200000 + f)] Z (rt (some (.int (F 111 (2 * f + g 22 f)))) Z) := by
  obtain ⟨hH, ⟨hPI, hPG, hZo⟩, ⟨hZh, hZd, hZw⟩, ⟨hZt, hZc, hZf⟩, hr⟩ := id h
  have hP := (hZf f hf).1
  have hFr := hPI.2.2.2.2.1 f hf
  have h9 := C_player (Γ := Γ) hP F (hZf f hf).2.2.1.2.1 (hZf f hf).2.2.1.2.2.1 hFr.1.2.2.2.1.1 hFr.1.2.2.2.1.2
  rw [h.wFs hf] at h9
  exact h9
theorem K_isOpenN {Γ : GTy} {Z : HS} {n : Nat} {P : HS → FT → Prop} {F A : FT} {g : GN} (h : CI n Z F g A) {t : Nat} (ht : t < 4)  {F' : FT} {b : Int32} (hb : b2 (F 102 t = 0) = b) (hcd : F' 25 0 = nI 0) (hq : Nx P Z Z F') : Tt Γ M_X9_isOpen [.ref 800000, .int (nI t)] Z (QVo P Z F' b) (QXo P Z F' [xIO]) := by
  refine Tt_of' rfl rfl rfl ?_
  show G Γ M_X9_isOpen (rm M_X9_isOpen) (Vt Γ M_X9_isOpen (QVo P Z F' b) (QXo P Z F' [xIO])) (0, 0) 0 [some (.ref 800000), some (.int (nI t))] [] Z
  have h0 := h
  obtain ⟨hH, ⟨hPI, hPG, hZo⟩, ⟨hZh, hZd, hZw⟩, ⟨hZt, hZc, hZf⟩, ⟨hZr, hZs, hZl⟩, hZfr, hZbd⟩ := h0
  refine G_aload_n (pc := 0) dX9_isOpen_0 rfl ?_
  refine G_iload_n (pc := 1) dX9_isOpen_1 rfl ?_
  refine K_Vn1r (pc := 2) (k' := (1, 6)) mok_X9_tableAt lk_X9_75 (sh_k hH) rfl rfl rfl (aok0 rfl) dX9_isOpen_2 (C_tableAtN hH ht) rfl ?_
  refine G_getIv (pc := 5) (v := b2 (F 102 t = 0)) (hZt t ht).1 fl_X9_83 (hH.2.2.1 t ht).1 rfl dX9_isOpen_5 ?_
  refine G_zret (pc := 8) VZ.x dX9_isOpen_8 rfl (b2_or _) ⟨by decide, by decide⟩ ?_
  exact ⟨congrArg (fun z => some (Value.int z)) hb, hcd, hq⟩
theorem K_isOpenX {Γ : GTy} {Z : HS} {n : Nat} {P : HS → FT → Prop} {F A : FT} {g : GN} (h : CI n Z F g A) {x : Int32} (hx : ¬ (nI 0 ≤ x ∧ x ≤ nI 3)) {F' : FT} {b : Int32} (hcd : F' 25 0 = nI 1) (hq : Nx P Z Z F') : Tt Γ M_X9_isOpen [.ref 800000, .int x] Z (QVo P Z F' b) (QXo P Z F' [xIO]) := by
  refine Tt_of' rfl rfl rfl ?_
  show G Γ M_X9_isOpen (rm M_X9_isOpen) (Vt Γ M_X9_isOpen (QVo P Z F' b) (QXo P Z F' [xIO])) (0, 0) 0 [some (.ref 800000), some (.int x)] [] Z
  have h0 := h
  obtain ⟨hH, ⟨hPI, hPG, hZo⟩, ⟨hZh, hZd, hZw⟩, ⟨hZt, hZc, hZf⟩, ⟨hZr, hZs, hZl⟩, hZfr, hZbd⟩ := h0
  refine G_aload_n (pc := 0) dX9_isOpen_0 rfl ?_
  refine G_iload_n (pc := 1) dX9_isOpen_1 rfl ?_
  refine K_V1 (pc := 2) (k' := (1, 6)) mok_X9_tableAt lk_X9_75 (sh_k hH) rfl rfl rfl (aok0 rfl) dX9_isOpen_2 (C_tableAtX hH hx) rfl (fun v1 Y1 q1 => ?_) (fun E1 Y1 q1 => ?_)
  · exact q1.elim
  · (obtain ⟨rfl, rfl⟩ := q1; exact GX_out rfl ⟨by decide, by decide⟩ ⟨0, rfl, hcd, hq⟩)
theorem K_renterN0 {Γ : GTy} {Z : HS} {n : Nat} {P : HS → FT → Prop} {F A : FT} {g : GN} (h : CI n Z F g A) {t : Nat} (ht : t < 4) (z : g 0 t = 0) {F' : FT} {b : Int32} (hb : -1 = b) (hcd : F' 25 0 = nI 0) (hq : Nx P Z Z F') : Tt Γ M_X9_renter [.ref 800000, .int (nI t)] Z (QVo P Z F' b) (QXo P Z F' [xIO]) := by
  refine Tt_of' rfl rfl rfl ?_
  show G Γ M_X9_renter (rm M_X9_renter) (Vt Γ M_X9_renter (QVo P Z F' b) (QXo P Z F' [xIO])) (0, 0) 0 [some (.ref 800000), some (.int (nI t)), none] [] Z
  have h0 := h
  obtain ⟨hH, ⟨hPI, hPG, hZo⟩, ⟨hZh, hZd, hZw⟩, ⟨hZt, hZc, hZf⟩, ⟨hZr, hZs, hZl⟩, hZfr, hZbd⟩ := h0
  refine G_aload_n (pc := 0) dX9_renter_0 rfl ?_
  refine G_iload_n (pc := 1) dX9_renter_1 rfl ?_
  refine K_Vn1r (pc := 2) (k' := (1, 6)) mok_X9_tableAt lk_X9_75 (sh_k hH) rfl rfl rfl (aok0 rfl) dX9_renter_2 (C_tableAtN hH ht) rfl ?_
  refine G_getN (pc := 5) fl_X9_87 (hH.2.2.1 t ht).1 rfl ((hZt t ht).2.1 z) dX9_renter_5 ?_
  refine G_astore_nN (pc := 8) dX9_renter_8 (by decide) ?_
  refine G_aload_nN (pc := 9) dX9_renter_9 rfl ?_
  refine G_ifnonnull_n (pc := 10) dX9_renter_10 ?_
  refine G_iconst (pc := 13) (v := -1) dX9_renter_13 (by first | rfl | decide) ?_
  refine G_goto (pc := 14) (tgt := 21) dX9_renter_14 (by decide) ?_
  refine G_iret (pc := 21) VZ.x dX9_renter_21 rfl ⟨by decide, by decide⟩ ?_
  exact ⟨congrArg (fun z => some (Value.int z)) hb, hcd, hq⟩
theorem K_renterN1 {Γ : GTy} {Z : HS} {n : Nat} {P : HS → FT → Prop} {F A : FT} {g : GN} (h : CI n Z F g A) {t : Nat} (ht : t < 4) (z : g 0 t ≠ 0) {F' : FT} {b : Int32} (hb : nI (g 7 (g 2 t)) = b) (hcd : F' 25 0 = nI 0) (hq : Nx P Z Z F') : Tt Γ M_X9_renter [.ref 800000, .int (nI t)] Z (QVo P Z F' b) (QXo P Z F' [xIO]) := by
  refine Tt_of' rfl rfl rfl ?_
  show G Γ M_X9_renter (rm M_X9_renter) (Vt Γ M_X9_renter (QVo P Z F' b) (QXo P Z F' [xIO])) (0, 0) 0 [some (.ref 800000), some (.int (nI t)), none] [] Z
  have h0 := h
  obtain ⟨hH, ⟨hPI, hPG, hZo⟩, ⟨hZh, hZd, hZw⟩, ⟨hZt, hZc, hZf⟩, ⟨hZr, hZs, hZl⟩, hZfr, hZbd⟩ := h0
  refine G_aload_n (pc := 0) dX9_renter_0 rfl ?_
  refine G_iload_n (pc := 1) dX9_renter_1 rfl ?_
  refine K_Vn1r (pc := 2) (k' := (1, 6)) mok_X9_tableAt lk_X9_75 (sh_k hH) rfl rfl rfl (aok0 rfl) dX9_renter_2 (C_tableAtN hH ht) rfl ?_
  refine G_getS (pc := 5) fl_X9_87 (hH.2.2.1 t ht).1 rfl ((hZt t ht).2.2.1 z).1 dX9_renter_5 ?_
  refine G_astore_n (pc := 8) dX9_renter_8 (by decide) ?_
  refine G_aload_n (pc := 9) dX9_renter_9 rfl ?_
  refine G_ifnonnull_r (pc := 10) (tgt := 17) dX9_renter_10 (by decide) ?_
  refine G_aload_n (pc := 17) dX9_renter_17 rfl ?_
  refine G_getIv (pc := 18) (v := nI (g 7 (g 2 t))) (hZr _ (hPG.2.1 t ht z).1).2.2.1.2.1 fl_X9_256 (hZr _ (hPG.2.1 t ht z).1).1 rfl dX9_renter_18 ?_
  refine G_iret (pc := 21) VZ.x dX9_renter_21 rfl ⟨by decide, by decide⟩ ?_
  exact ⟨congrArg (fun z => some (Value.int z)) hb, hcd, hq⟩
theorem K_renterX {Γ : GTy} {Z : HS} {n : Nat} {P : HS → FT → Prop} {F A : FT} {g : GN} (h : CI n Z F g A) {x : Int32} (hx : ¬ (nI 0 ≤ x ∧ x ≤ nI 3)) {F' : FT} {b : Int32} (hcd : F' 25 0 = nI 1) (hq : Nx P Z Z F') : Tt Γ M_X9_renter [.ref 800000, .int x] Z (QVo P Z F' b) (QXo P Z F' [xIO]) := by
  refine Tt_of' rfl rfl rfl ?_
  show G Γ M_X9_renter (rm M_X9_renter) (Vt Γ M_X9_renter (QVo P Z F' b) (QXo P Z F' [xIO])) (0, 0) 0 [some (.ref 800000), some (.int x), none] [] Z
  have h0 := h
  obtain ⟨hH, ⟨hPI, hPG, hZo⟩, ⟨hZh, hZd, hZw⟩, ⟨hZt, hZc, hZf⟩, ⟨hZr, hZs, hZl⟩, hZfr, hZbd⟩ := h0
  refine G_aload_n (pc := 0) dX9_renter_0 rfl ?_
  refine G_iload_n (pc := 1) dX9_renter_1 rfl ?_
  refine K_V1 (pc := 2) (k' := (1, 6)) mok_X9_tableAt lk_X9_75 (sh_k hH) rfl rfl rfl (aok0 rfl) dX9_renter_2 (C_tableAtX hH hx) rfl (fun v1 Y1 q1 => ?_) (fun E1 Y1 q1 => ?_)
  · exact q1.elim
  · (obtain ⟨rfl, rfl⟩ := q1; exact GX_out rfl ⟨by decide, by decide⟩ ⟨0, rfl, hcd, hq⟩)
theorem K_clockN0 {Γ : GTy} {Z : HS} {n : Nat} {P : HS → FT → Prop} {F A : FT} {g : GN} (h : CI n Z F g A) {t : Nat} (ht : t < 4) (z : g 0 t = 0) {F' : FT} {b : Int32} (hb : nI 0 = b) (hcd : F' 25 0 = nI 0) (hq : Nx P Z Z F') : Tt Γ M_X9_clock [.ref 800000, .int (nI t)] Z (QVo P Z F' b) (QXo P Z F' [xIO]) := by
  refine Tt_of' rfl rfl rfl ?_
  show G Γ M_X9_clock (rm M_X9_clock) (Vt Γ M_X9_clock (QVo P Z F' b) (QXo P Z F' [xIO])) (0, 0) 0 [some (.ref 800000), some (.int (nI t)), none] [] Z
  have h0 := h
  obtain ⟨hH, ⟨hPI, hPG, hZo⟩, ⟨hZh, hZd, hZw⟩, ⟨hZt, hZc, hZf⟩, ⟨hZr, hZs, hZl⟩, hZfr, hZbd⟩ := h0
  refine G_aload_n (pc := 0) dX9_clock_0 rfl ?_
  refine G_iload_n (pc := 1) dX9_clock_1 rfl ?_
  refine K_Vn1r (pc := 2) (k' := (1, 6)) mok_X9_tableAt lk_X9_75 (sh_k hH) rfl rfl rfl (aok0 rfl) dX9_clock_2 (C_tableAtN hH ht) rfl ?_
  refine G_astore_n (pc := 5) dX9_clock_5 (by decide) ?_
  refine G_aload_n (pc := 6) dX9_clock_6 rfl ?_
  refine G_getN (pc := 7) fl_X9_87 (hH.2.2.1 t ht).1 rfl ((hZt t ht).2.1 z) dX9_clock_7 ?_
  refine G_ifnonnull_n (pc := 10) dX9_clock_10 ?_
  refine G_iconst (pc := 13) (v := nI 0) dX9_clock_13 (by first | rfl | decide) ?_
  refine G_goto (pc := 14) (tgt := 21) dX9_clock_14 (by decide) ?_
  refine G_iret (pc := 21) VZ.x dX9_clock_21 rfl ⟨by decide, by decide⟩ ?_
  exact ⟨congrArg (fun z => some (Value.int z)) hb, hcd, hq⟩
theorem K_clockN1 {Γ : GTy} {Z : HS} {n : Nat} {P : HS → FT → Prop} {F A : FT} {g : GN} (h : CI n Z F g A) {t : Nat} (ht : t < 4) (z : g 0 t ≠ 0) {F' : FT} {b : Int32} (hb : F 105 t = b) (hcd : F' 25 0 = nI 0) (hq : Nx P Z Z F') : Tt Γ M_X9_clock [.ref 800000, .int (nI t)] Z (QVo P Z F' b) (QXo P Z F' [xIO]) := by
  refine Tt_of' rfl rfl rfl ?_
  show G Γ M_X9_clock (rm M_X9_clock) (Vt Γ M_X9_clock (QVo P Z F' b) (QXo P Z F' [xIO])) (0, 0) 0 [some (.ref 800000), some (.int (nI t)), none] [] Z
  have h0 := h
  obtain ⟨hH, ⟨hPI, hPG, hZo⟩, ⟨hZh, hZd, hZw⟩, ⟨hZt, hZc, hZf⟩, ⟨hZr, hZs, hZl⟩, hZfr, hZbd⟩ := h0
  refine G_aload_n (pc := 0) dX9_clock_0 rfl ?_
  refine G_iload_n (pc := 1) dX9_clock_1 rfl ?_
  refine K_Vn1r (pc := 2) (k' := (1, 6)) mok_X9_tableAt lk_X9_75 (sh_k hH) rfl rfl rfl (aok0 rfl) dX9_clock_2 (C_tableAtN hH ht) rfl ?_
  refine G_astore_n (pc := 5) dX9_clock_5 (by decide) ?_
  refine G_aload_n (pc := 6) dX9_clock_6 rfl ?_
  refine G_getS (pc := 7) fl_X9_87 (hH.2.2.1 t ht).1 rfl ((hZt t ht).2.2.1 z).1 dX9_clock_7 ?_
  refine G_ifnonnull_r (pc := 10) (tgt := 17) dX9_clock_10 (by decide) ?_
  refine G_aload_n (pc := 17) dX9_clock_17 rfl ?_
  refine G_getIv (pc := 18) (v := F 105 t) ((hZt t ht).2.2.1 z).2 fl_X9_107 (hH.2.2.1 t ht).1 rfl dX9_clock_18 ?_
  refine G_iret (pc := 21) VZ.x dX9_clock_21 rfl ⟨by decide, by decide⟩ ?_
  exact ⟨congrArg (fun z => some (Value.int z)) hb, hcd, hq⟩
theorem K_clockX {Γ : GTy} {Z : HS} {n : Nat} {P : HS → FT → Prop} {F A : FT} {g : GN} (h : CI n Z F g A) {x : Int32} (hx : ¬ (nI 0 ≤ x ∧ x ≤ nI 3)) {F' : FT} {b : Int32} (hcd : F' 25 0 = nI 1) (hq : Nx P Z Z F') : Tt Γ M_X9_clock [.ref 800000, .int x] Z (QVo P Z F' b) (QXo P Z F' [xIO]) := by
  refine Tt_of' rfl rfl rfl ?_
  show G Γ M_X9_clock (rm M_X9_clock) (Vt Γ M_X9_clock (QVo P Z F' b) (QXo P Z F' [xIO])) (0, 0) 0 [some (.ref 800000), some (.int x), none] [] Z
  have h0 := h
  obtain ⟨hH, ⟨hPI, hPG, hZo⟩, ⟨hZh, hZd, hZw⟩, ⟨hZt, hZc, hZf⟩, ⟨hZr, hZs, hZl⟩, hZfr, hZbd⟩ := h0
  refine G_aload_n (pc := 0) dX9_clock_0 rfl ?_
  refine G_iload_n (pc := 1) dX9_clock_1 rfl ?_
  refine K_V1 (pc := 2) (k' := (1, 6)) mok_X9_tableAt lk_X9_75 (sh_k hH) rfl rfl rfl (aok0 rfl) dX9_clock_2 (C_tableAtX hH hx) rfl (fun v1 Y1 q1 => ?_) (fun E1 Y1 q1 => ?_)
  · exact q1.elim
  · (obtain ⟨rfl, rfl⟩ := q1; exact GX_out rfl ⟨by decide, by decide⟩ ⟨0, rfl, hcd, hq⟩)
theorem K_frameOnN0 {Γ : GTy} {Z : HS} {n : Nat} {P : HS → FT → Prop} {F A : FT} {g : GN} (h : CI n Z F g A) {t : Nat} (ht : t < 4) (z : g 1 t = 0) {F' : FT} {b : Int32} (hb : -1 = b) (hcd : F' 25 0 = nI 0) (hq : Nx P Z Z F') : Tt Γ M_X9_frameOn [.ref 800000, .int (nI t)] Z (QVo P Z F' b) (QXo P Z F' [xIO]) := by
  refine Tt_of' rfl rfl rfl ?_
  show G Γ M_X9_frameOn (rm M_X9_frameOn) (Vt Γ M_X9_frameOn (QVo P Z F' b) (QXo P Z F' [xIO])) (0, 0) 0 [some (.ref 800000), some (.int (nI t)), none] [] Z
  have h0 := h
  obtain ⟨hH, ⟨hPI, hPG, hZo⟩, ⟨hZh, hZd, hZw⟩, ⟨hZt, hZc, hZf⟩, ⟨hZr, hZs, hZl⟩, hZfr, hZbd⟩ := h0
  refine G_aload_n (pc := 0) dX9_frameOn_0 rfl ?_
  refine G_iload_n (pc := 1) dX9_frameOn_1 rfl ?_
  refine K_Vn1r (pc := 2) (k' := (1, 6)) mok_X9_tableAt lk_X9_75 (sh_k hH) rfl rfl rfl (aok0 rfl) dX9_frameOn_2 (C_tableAtN hH ht) rfl ?_
  refine G_getN (pc := 5) fl_X9_257 (hH.2.2.1 t ht).1 rfl ((hZt t ht).2.2.2.1 z) dX9_frameOn_5 ?_
  refine G_astore_nN (pc := 8) dX9_frameOn_8 (by decide) ?_
  refine G_aload_nN (pc := 9) dX9_frameOn_9 rfl ?_
  refine G_ifnonnull_n (pc := 10) dX9_frameOn_10 ?_
  refine G_iconst (pc := 13) (v := -1) dX9_frameOn_13 (by first | rfl | decide) ?_
  refine G_goto (pc := 14) (tgt := 21) dX9_frameOn_14 (by decide) ?_
  refine G_iret (pc := 21) VZ.x dX9_frameOn_21 rfl ⟨by decide, by decide⟩ ?_
  exact ⟨congrArg (fun z => some (Value.int z)) hb, hcd, hq⟩
theorem K_frameOnN1 {Γ : GTy} {Z : HS} {n : Nat} {P : HS → FT → Prop} {F A : FT} {g : GN} (h : CI n Z F g A) {t : Nat} (ht : t < 4) (z : g 1 t ≠ 0) (hf : g 1 t - 1 < g 16 0) {F' : FT} {b : Int32} (hb : nI (g 1 t - 1) = b) (hcd : F' 25 0 = nI 0) (hq : Nx P Z Z F') : Tt Γ M_X9_frameOn [.ref 800000, .int (nI t)] Z (QVo P Z F' b) (QXo P Z F' [xIO]) := by
  refine Tt_of' rfl rfl rfl ?_
  show G Γ M_X9_frameOn (rm M_X9_frameOn) (Vt Γ M_X9_frameOn (QVo P Z F' b) (QXo P Z F' [xIO])) (0, 0) 0 [some (.ref 800000), some (.int (nI t)), none] [] Z
  have h0 := h
  obtain ⟨hH, ⟨hPI, hPG, hZo⟩, ⟨hZh, hZd, hZw⟩, ⟨hZt, hZc, hZf⟩, ⟨hZr, hZs, hZl⟩, hZfr, hZbd⟩ := h0
  refine G_aload_n (pc := 0) dX9_frameOn_0 rfl ?_
  refine G_iload_n (pc := 1) dX9_frameOn_1 rfl ?_
  refine K_Vn1r (pc := 2) (k' := (1, 6)) mok_X9_tableAt lk_X9_75 (sh_k hH) rfl rfl rfl (aok0 rfl) dX9_frameOn_2 (C_tableAtN hH ht) rfl ?_
  refine G_getS (pc := 5) fl_X9_257 (hH.2.2.1 t ht).1 rfl ((hZt t ht).2.2.2.2.1 z) dX9_frameOn_5 ?_
  refine G_astore_n (pc := 8) dX9_frameOn_8 (by decide) ?_
  refine G_aload_n (pc := 9) dX9_frameOn_9 rfl ?_
  refine G_ifnonnull_r (pc := 10) (tgt := 17) dX9_frameOn_10 (by decide) ?_
  refine G_aload_n (pc := 17) dX9_frameOn_17 rfl ?_
  refine G_getIv (pc := 18) (v := nI (g 1 t - 1)) (hZf _ hf).2.2.1.1 fl_X9_161 (hZf _ hf).1.1 rfl dX9_frameOn_18 ?_
  refine G_iret (pc := 21) VZ.x dX9_frameOn_21 rfl ⟨by decide, by decide⟩ ?_
  exact ⟨congrArg (fun z => some (Value.int z)) hb, hcd, hq⟩
theorem K_frameOnX {Γ : GTy} {Z : HS} {n : Nat} {P : HS → FT → Prop} {F A : FT} {g : GN} (h : CI n Z F g A) {x : Int32} (hx : ¬ (nI 0 ≤ x ∧ x ≤ nI 3)) {F' : FT} {b : Int32} (hcd : F' 25 0 = nI 1) (hq : Nx P Z Z F') : Tt Γ M_X9_frameOn [.ref 800000, .int x] Z (QVo P Z F' b) (QXo P Z F' [xIO]) := by
  refine Tt_of' rfl rfl rfl ?_
  show G Γ M_X9_frameOn (rm M_X9_frameOn) (Vt Γ M_X9_frameOn (QVo P Z F' b) (QXo P Z F' [xIO])) (0, 0) 0 [some (.ref 800000), some (.int x), none] [] Z
  have h0 := h
  obtain ⟨hH, ⟨hPI, hPG, hZo⟩, ⟨hZh, hZd, hZw⟩, ⟨hZt, hZc, hZf⟩, ⟨hZr, hZs, hZl⟩, hZfr, hZbd⟩ := h0
  refine G_aload_n (pc := 0) dX9_frameOn_0 rfl ?_
  refine G_iload_n (pc := 1) dX9_frameOn_1 rfl ?_
  refine K_V1 (pc := 2) (k' := (1, 6)) mok_X9_tableAt lk_X9_75 (sh_k hH) rfl rfl rfl (aok0 rfl) dX9_frameOn_2 (C_tableAtX hH hx) rfl (fun v1 Y1 q1 => ?_) (fun E1 Y1 q1 => ?_)
  · exact q1.elim
  · (obtain ⟨rfl, rfl⟩ := q1; exact GX_out rfl ⟨by decide, by decide⟩ ⟨0, rfl, hcd, hq⟩)
theorem K_owesN {Γ : GTy} {Z : HS} {n : Nat} {P : HS → FT → Prop} {F A : FT} {g : GN} (h : CI n Z F g A) {c : Nat} (hc : c < 8)  {F' : FT} {b : Int32} (hb : owe F c = b) (hcd : F' 25 0 = nI 0) (hq : Nx P Z Z F') : Tt Γ M_X9_owes [.ref 800000, .int (nI c)] Z (QVo P Z F' b) (QXo P Z F' [xIO]) := by
  refine Tt_of' rfl rfl rfl ?_
  show G Γ M_X9_owes (rm M_X9_owes) (Vt Γ M_X9_owes (QVo P Z F' b) (QXo P Z F' [xIO])) (0, 0) 0 [some (.ref 800000), some (.int (nI c))] [] Z
  have h0 := h
  obtain ⟨hH, ⟨hPI, hPG, hZo⟩, ⟨hZh, hZd, hZw⟩, ⟨hZt, hZc, hZf⟩, ⟨hZr, hZs, hZl⟩, hZfr, hZbd⟩ := h0
  refine G_iload_n (pc := 0) dX9_owes_0 rfl ?_
  refine K_Sn1v (pc := 1) (k' := (1, 6)) mok_X9_requireCustomer lk_X9_79 rfl (aok0 rfl) dX9_owes_1 (C_custN hc) rfl ?_
  refine G_aload_n (pc := 4) dX9_owes_4 rfl ?_
  refine G_getS (pc := 5) fl_X9_45 (sh_k hH) rfl (sh_r6 hH) dX9_owes_5 ?_
  refine G_iload_n (pc := 8) dX9_owes_8 rfl ?_
  refine G_ialdv (pc := 9) (j := c) (v := owe F c) (hZd c hc) (sh_c6 hH) rfl (Nat.lt_of_lt_of_eq hc (sh_n6 hH).symm) (by omega) dX9_owes_9 ?_
  refine G_iret (pc := 10) VZ.x dX9_owes_10 rfl ⟨by decide, by decide⟩ ?_
  exact ⟨congrArg (fun z => some (Value.int z)) hb, hcd, hq⟩
theorem K_owesX {Γ : GTy} {Z : HS} {n : Nat} {P : HS → FT → Prop} {F A : FT} {g : GN} (h : CI n Z F g A) {x : Int32} (hx : ¬ (nI 0 ≤ x ∧ x ≤ nI 7)) {F' : FT} {b : Int32} (hcd : F' 25 0 = nI 1) (hq : Nx P Z Z F') : Tt Γ M_X9_owes [.ref 800000, .int x] Z (QVo P Z F' b) (QXo P Z F' [xIO]) := by
  refine Tt_of' rfl rfl rfl ?_
  show G Γ M_X9_owes (rm M_X9_owes) (Vt Γ M_X9_owes (QVo P Z F' b) (QXo P Z F' [xIO])) (0, 0) 0 [some (.ref 800000), some (.int x)] [] Z
  have h0 := h
  obtain ⟨hH, ⟨hPI, hPG, hZo⟩, ⟨hZh, hZd, hZw⟩, ⟨hZt, hZc, hZf⟩, ⟨hZr, hZs, hZl⟩, hZfr, hZbd⟩ := h0
  refine G_iload_n (pc := 0) dX9_owes_0 rfl ?_
  refine K_S1 (pc := 1) (k' := (1, 6)) mok_X9_requireCustomer lk_X9_79 rfl (aok0 rfl) dX9_owes_1 (C_custX hx) rfl (fun v1 Y1 q1 => ?_) (fun E1 Y1 q1 => ?_)
  · exact q1.elim
  · (obtain ⟨rfl, rfl⟩ := q1; exact GX_out rfl ⟨by decide, by decide⟩ ⟨0, rfl, hcd, hq⟩)
theorem K_winsN {Γ : GTy} {Z : HS} {n : Nat} {P : HS → FT → Prop} {F A : FT} {g : GN} (h : CI n Z F g A) {c : Nat} (hc : c < 8)  {F' : FT} {b : Int32} (hb : nI (wN F (g 16 0) c) = b) (hcd : F' 25 0 = nI 0) (hq : Nx P Z Z F') : Tt Γ M_X9_wins [.ref 800000, .int (nI c)] Z (QVo P Z F' b) (QXo P Z F' [xIO]) := by
  refine Tt_of' rfl rfl rfl ?_
  show G Γ M_X9_wins (rm M_X9_wins) (Vt Γ M_X9_wins (QVo P Z F' b) (QXo P Z F' [xIO])) (0, 0) 0 [some (.ref 800000), some (.int (nI c))] [] Z
  have h0 := h
  obtain ⟨hH, ⟨hPI, hPG, hZo⟩, ⟨hZh, hZd, hZw⟩, ⟨hZt, hZc, hZf⟩, ⟨hZr, hZs, hZl⟩, hZfr, hZbd⟩ := h0
  refine G_iload_n (pc := 0) dX9_wins_0 rfl ?_
  refine K_Sn1v (pc := 1) (k' := (1, 6)) mok_X9_requireCustomer lk_X9_79 rfl (aok0 rfl) dX9_wins_1 (C_custN hc) rfl ?_
  refine G_aload_n (pc := 4) dX9_wins_4 rfl ?_
  refine G_getS (pc := 5) fl_X9_49 (sh_k hH) rfl (sh_r7 hH) dX9_wins_5 ?_
  refine G_iload_n (pc := 8) dX9_wins_8 rfl ?_
  refine G_ialdv (pc := 9) (j := c) (v := nI (wN F (g 16 0) c)) (hZw c hc) (sh_c7 hH) rfl (Nat.lt_of_lt_of_eq hc (sh_n7 hH).symm) (by omega) dX9_wins_9 ?_
  refine G_iret (pc := 10) VZ.x dX9_wins_10 rfl ⟨by decide, by decide⟩ ?_
  exact ⟨congrArg (fun z => some (Value.int z)) hb, hcd, hq⟩
theorem K_winsX {Γ : GTy} {Z : HS} {n : Nat} {P : HS → FT → Prop} {F A : FT} {g : GN} (h : CI n Z F g A) {x : Int32} (hx : ¬ (nI 0 ≤ x ∧ x ≤ nI 7)) {F' : FT} {b : Int32} (hcd : F' 25 0 = nI 1) (hq : Nx P Z Z F') : Tt Γ M_X9_wins [.ref 800000, .int x] Z (QVo P Z F' b) (QXo P Z F' [xIO]) := by
  refine Tt_of' rfl rfl rfl ?_
  show G Γ M_X9_wins (rm M_X9_wins) (Vt Γ M_X9_wins (QVo P Z F' b) (QXo P Z F' [xIO])) (0, 0) 0 [some (.ref 800000), some (.int x)] [] Z
  have h0 := h
  obtain ⟨hH, ⟨hPI, hPG, hZo⟩, ⟨hZh, hZd, hZw⟩, ⟨hZt, hZc, hZf⟩, ⟨hZr, hZs, hZl⟩, hZfr, hZbd⟩ := h0
  refine G_iload_n (pc := 0) dX9_wins_0 rfl ?_
  refine K_S1 (pc := 1) (k' := (1, 6)) mok_X9_requireCustomer lk_X9_79 rfl (aok0 rfl) dX9_wins_1 (C_custX hx) rfl (fun v1 Y1 q1 => ?_) (fun E1 Y1 q1 => ?_)
  · exact q1.elim
  · (obtain ⟨rfl, rfl⟩ := q1; exact GX_out rfl ⟨by decide, by decide⟩ ⟨0, rfl, hcd, hq⟩)
theorem K_cueOfN0 {Γ : GTy} {Z : HS} {n : Nat} {P : HS → FT → Prop} {F A : FT} {g : GN} (h : CI n Z F g A) {c : Nat} (hc : c < 8) (he : lastW (fun k => F 107 k = nI (c + 1)) 6 = -1) {F' : FT} {b : Int32} (hb : -1 = b) (hcd : F' 25 0 = nI 0) (hq : Nx P Z Z F') : Tt Γ M_X9_cueOf [.ref 800000, .int (nI c)] Z (QVo P Z F' b) (QXo P Z F' [xIO]) := by
  refine Tt_of' rfl rfl rfl ?_
  show G Γ M_X9_cueOf (rm M_X9_cueOf) (Vt Γ M_X9_cueOf (QVo P Z F' b) (QXo P Z F' [xIO])) (0, 0) 0 [some (.ref 800000), some (.int (nI c)), none] [] Z
  have h0 := h
  obtain ⟨hH, ⟨hPI, hPG, hZo⟩, ⟨hZh, hZd, hZw⟩, ⟨hZt, hZc, hZf⟩, ⟨hZr, hZs, hZl⟩, hZfr, hZbd⟩ := h0
  have loop : ∀ (n9 j : Nat), j + n9 = 6 → (∀ i, i < j → ¬ F 107 i = nI (c + 1)) → G Γ M_X9_cueOf (rm M_X9_cueOf) (Vt Γ M_X9_cueOf (QVo P Z F' b) (QXo P Z F' [xIO])) (1, 6) 6 [some (.ref 800000), some (.int (nI c)), some (.int (nI j))] [] Z := by
    intro n9
    induction n9 with
    | zero =>
      intro j hj hq9
      obtain rfl : j = 6 := by omega
      refine G_iload_n (pc := 6) dX9_cueOf_6 rfl ?_
      refine G_aload_n (pc := 7) dX9_cueOf_7 rfl ?_
      refine G_getS (pc := 8) fl_X9_17 (sh_k hH) rfl (sh_r1 hH) dX9_cueOf_8 ?_
      refine G_alen (pc := 11) (v := nI 6) (sh_c1 hH) (by decide) (congrArg nI (sh_n1 hH)) dX9_cueOf_11 ?_
      refine G_icmp_geN (pc := 12) (tgt := 45) (by omega) (by omega) dX9_cueOf_12 (by decide) (fun c12 => ?_) (fun c12 => ?_)
      · skip
        refine G_iconst (pc := 45) (v := -1) dX9_cueOf_45 (by first | rfl | decide) ?_
        refine G_iret (pc := 46) VZ.x dX9_cueOf_46 rfl ⟨by decide, by decide⟩ ?_
        exact ⟨congrArg (fun z => some (Value.int z)) hb, hcd, hq⟩
      · omega
    | succ n9 ih =>
      intro j hj hq9
      have hj9 : j < 6 := by omega
      refine G_iload_n (pc := 6) dX9_cueOf_6 rfl ?_
      refine G_aload_n (pc := 7) dX9_cueOf_7 rfl ?_
      refine G_getS (pc := 8) fl_X9_17 (sh_k hH) rfl (sh_r1 hH) dX9_cueOf_8 ?_
      refine G_alen (pc := 11) (v := nI 6) (sh_c1 hH) (by decide) (congrArg nI (sh_n1 hH)) dX9_cueOf_11 ?_
      refine G_icmp_geN (pc := 12) (tgt := 45) (by omega) (by omega) dX9_cueOf_12 (by decide) (fun c12 => ?_) (fun c12 => ?_)
      · omega
      · skip
        refine G_aload_n (pc := 15) dX9_cueOf_15 rfl ?_
        refine G_getS (pc := 16) fl_X9_17 (sh_k hH) rfl (sh_r1 hH) dX9_cueOf_16 ?_
        refine G_iload_n (pc := 19) dX9_cueOf_19 rfl ?_
        refine G_aaldS (pc := 20) (j := j) (sh_c1 hH) (by decide) rfl (Nat.lt_of_lt_of_eq hj9 (sh_n1 hH).symm) (by omega) (hH.2.2.2.1 j hj9).2 dX9_cueOf_20 ?_
        refine G_ifnull_r (pc := 21) dX9_cueOf_21 ?_
        refine G_aload_n (pc := 24) dX9_cueOf_24 rfl ?_
        refine G_getS (pc := 25) fl_X9_17 (sh_k hH) rfl (sh_r1 hH) dX9_cueOf_25 ?_
        refine G_iload_n (pc := 28) dX9_cueOf_28 rfl ?_
        refine G_aaldS (pc := 29) (j := j) (sh_c1 hH) (by decide) rfl (Nat.lt_of_lt_of_eq hj9 (sh_n1 hH).symm) (by omega) (hH.2.2.2.1 j hj9).2 dX9_cueOf_29 ?_
        refine G_iload_n (pc := 30) dX9_cueOf_30 rfl ?_
        refine K_Vn1r (pc := 31) (k' := (1, 6)) mok_X1_isHeldBy lk_X9_292 (hH.2.2.2.1 j hj9).1 rfl rfl rfl (aok0 rfl) dX9_cueOf_31 (C_held h hj9 hc) rfl ?_
        refine G_if_eqB (pc := 34) (tgt := 39) dX9_cueOf_34 (by decide) (fun c34 => ?_) (fun c34 => ?_)
        · skip
          refine G_iincN (pc := 39) dX9_cueOf_39 rfl (by decide) ?_
          refine G_goto (pc := 42) (tgt := 6) dX9_cueOf_42 (by decide) ?_
          exact ih (j + 1) (by omega) (fun i hi => by by_cases e : i = j; (subst e; exact c34); exact hq9 i (by omega))
        · skip
          refine G_iload_n (pc := 37) dX9_cueOf_37 rfl ?_
          refine G_iret (pc := 38) VZ.x dX9_cueOf_38 rfl ⟨by decide, by decide⟩ ?_
          exact absurd c34 (lastW_no he hj9)
  refine G_iload_n (pc := 0) dX9_cueOf_0 rfl ?_
  refine K_Sn1v (pc := 1) (k' := (1, 6)) mok_X9_requireCustomer lk_X9_79 rfl (aok0 rfl) dX9_cueOf_1 (C_custN hc) rfl ?_
  refine G_iconst (pc := 4) (v := nI 0) dX9_cueOf_4 (by first | rfl | decide) ?_
  refine G_istore_n (pc := 5) dX9_cueOf_5 (by decide) ?_
  exact loop 6 0 rfl (fun i hi => absurd hi (Nat.not_lt_zero i))
theorem K_cueOfN1 {Γ : GTy} {Z : HS} {n : Nat} {P : HS → FT → Prop} {F A : FT} {g : GN} (h : CI n Z F g A) {c u : Nat} (hc : c < 8) (hu : u < 6) (he : F 107 u = nI (c + 1)) {F' : FT} {b : Int32} (hb : nI u = b) (hcd : F' 25 0 = nI 0) (hq : Nx P Z Z F') : Tt Γ M_X9_cueOf [.ref 800000, .int (nI c)] Z (QVo P Z F' b) (QXo P Z F' [xIO]) := by
  refine Tt_of' rfl rfl rfl ?_
  show G Γ M_X9_cueOf (rm M_X9_cueOf) (Vt Γ M_X9_cueOf (QVo P Z F' b) (QXo P Z F' [xIO])) (0, 0) 0 [some (.ref 800000), some (.int (nI c)), none] [] Z
  have h0 := h
  obtain ⟨hH, ⟨hPI, hPG, hZo⟩, ⟨hZh, hZd, hZw⟩, ⟨hZt, hZc, hZf⟩, ⟨hZr, hZs, hZl⟩, hZfr, hZbd⟩ := h0
  have loop : ∀ (n9 j : Nat), j + n9 = 6 → (∀ i, i < j → ¬ F 107 i = nI (c + 1)) → G Γ M_X9_cueOf (rm M_X9_cueOf) (Vt Γ M_X9_cueOf (QVo P Z F' b) (QXo P Z F' [xIO])) (1, 6) 6 [some (.ref 800000), some (.int (nI c)), some (.int (nI j))] [] Z := by
    intro n9
    induction n9 with
    | zero =>
      intro j hj hq9
      obtain rfl : j = 6 := by omega
      refine G_iload_n (pc := 6) dX9_cueOf_6 rfl ?_
      refine G_aload_n (pc := 7) dX9_cueOf_7 rfl ?_
      refine G_getS (pc := 8) fl_X9_17 (sh_k hH) rfl (sh_r1 hH) dX9_cueOf_8 ?_
      refine G_alen (pc := 11) (v := nI 6) (sh_c1 hH) (by decide) (congrArg nI (sh_n1 hH)) dX9_cueOf_11 ?_
      refine G_icmp_geN (pc := 12) (tgt := 45) (by omega) (by omega) dX9_cueOf_12 (by decide) (fun c12 => ?_) (fun c12 => ?_)
      · skip
        refine G_iconst (pc := 45) (v := -1) dX9_cueOf_45 (by first | rfl | decide) ?_
        refine G_iret (pc := 46) VZ.x dX9_cueOf_46 rfl ⟨by decide, by decide⟩ ?_
        exact absurd he (hq9 u hu)
      · omega
    | succ n9 ih =>
      intro j hj hq9
      have hj9 : j < 6 := by omega
      refine G_iload_n (pc := 6) dX9_cueOf_6 rfl ?_
      refine G_aload_n (pc := 7) dX9_cueOf_7 rfl ?_
      refine G_getS (pc := 8) fl_X9_17 (sh_k hH) rfl (sh_r1 hH) dX9_cueOf_8 ?_
      refine G_alen (pc := 11) (v := nI 6) (sh_c1 hH) (by decide) (congrArg nI (sh_n1 hH)) dX9_cueOf_11 ?_
      refine G_icmp_geN (pc := 12) (tgt := 45) (by omega) (by omega) dX9_cueOf_12 (by decide) (fun c12 => ?_) (fun c12 => ?_)
      · omega
      · skip
        refine G_aload_n (pc := 15) dX9_cueOf_15 rfl ?_
        refine G_getS (pc := 16) fl_X9_17 (sh_k hH) rfl (sh_r1 hH) dX9_cueOf_16 ?_
        refine G_iload_n (pc := 19) dX9_cueOf_19 rfl ?_
        refine G_aaldS (pc := 20) (j := j) (sh_c1 hH) (by decide) rfl (Nat.lt_of_lt_of_eq hj9 (sh_n1 hH).symm) (by omega) (hH.2.2.2.1 j hj9).2 dX9_cueOf_20 ?_
        refine G_ifnull_r (pc := 21) dX9_cueOf_21 ?_
        refine G_aload_n (pc := 24) dX9_cueOf_24 rfl ?_
        refine G_getS (pc := 25) fl_X9_17 (sh_k hH) rfl (sh_r1 hH) dX9_cueOf_25 ?_
        refine G_iload_n (pc := 28) dX9_cueOf_28 rfl ?_
        refine G_aaldS (pc := 29) (j := j) (sh_c1 hH) (by decide) rfl (Nat.lt_of_lt_of_eq hj9 (sh_n1 hH).symm) (by omega) (hH.2.2.2.1 j hj9).2 dX9_cueOf_29 ?_
        refine G_iload_n (pc := 30) dX9_cueOf_30 rfl ?_
        refine K_Vn1r (pc := 31) (k' := (1, 6)) mok_X1_isHeldBy lk_X9_292 (hH.2.2.2.1 j hj9).1 rfl rfl rfl (aok0 rfl) dX9_cueOf_31 (C_held h hj9 hc) rfl ?_
        refine G_if_eqB (pc := 34) (tgt := 39) dX9_cueOf_34 (by decide) (fun c34 => ?_) (fun c34 => ?_)
        · skip
          refine G_iincN (pc := 39) dX9_cueOf_39 rfl (by decide) ?_
          refine G_goto (pc := 42) (tgt := 6) dX9_cueOf_42 (by decide) ?_
          exact ih (j + 1) (by omega) (fun i hi => by by_cases e : i = j; (subst e; exact c34); exact hq9 i (by omega))
        · skip
          refine G_iload_n (pc := 37) dX9_cueOf_37 rfl ?_
          refine G_iret (pc := 38) VZ.x dX9_cueOf_38 rfl ⟨by decide, by decide⟩ ?_
          have e9 : j = u := cue_u hPI hj9 hu c34 he hc
          subst e9
          exact ⟨congrArg (fun z => some (Value.int z)) hb, hcd, hq⟩
  refine G_iload_n (pc := 0) dX9_cueOf_0 rfl ?_
  refine K_Sn1v (pc := 1) (k' := (1, 6)) mok_X9_requireCustomer lk_X9_79 rfl (aok0 rfl) dX9_cueOf_1 (C_custN hc) rfl ?_
  refine G_iconst (pc := 4) (v := nI 0) dX9_cueOf_4 (by first | rfl | decide) ?_
  refine G_istore_n (pc := 5) dX9_cueOf_5 (by decide) ?_
  exact loop 6 0 rfl (fun i hi => absurd hi (Nat.not_lt_zero i))
theorem K_cueOfX {Γ : GTy} {Z : HS} {n : Nat} {P : HS → FT → Prop} {F A : FT} {g : GN} (h : CI n Z F g A) {x : Int32} (hx : ¬ (nI 0 ≤ x ∧ x ≤ nI 7)) {F' : FT} {b : Int32} (hcd : F' 25 0 = nI 1) (hq : Nx P Z Z F') : Tt Γ M_X9_cueOf [.ref 800000, .int x] Z (QVo P Z F' b) (QXo P Z F' [xIO]) := by
  refine Tt_of' rfl rfl rfl ?_
  show G Γ M_X9_cueOf (rm M_X9_cueOf) (Vt Γ M_X9_cueOf (QVo P Z F' b) (QXo P Z F' [xIO])) (0, 0) 0 [some (.ref 800000), some (.int x), none] [] Z
  have h0 := h
  obtain ⟨hH, ⟨hPI, hPG, hZo⟩, ⟨hZh, hZd, hZw⟩, ⟨hZt, hZc, hZf⟩, ⟨hZr, hZs, hZl⟩, hZfr, hZbd⟩ := h0
  refine G_iload_n (pc := 0) dX9_cueOf_0 rfl ?_
  refine K_S1 (pc := 1) (k' := (1, 6)) mok_X9_requireCustomer lk_X9_79 rfl (aok0 rfl) dX9_cueOf_1 (C_custX hx) rfl (fun v1 Y1 q1 => ?_) (fun E1 Y1 q1 => ?_)
  · exact q1.elim
  · (obtain ⟨rfl, rfl⟩ := q1; exact GX_out rfl ⟨by decide, by decide⟩ ⟨0, rfl, hcd, hq⟩)
theorem K_rankN {Γ : GTy} {Z : HS} {n : Nat} {P : HS → FT → Prop} {F A : FT} {g : GN} (h : CI n Z F g A) {c : Nat} (hc : c < 8) {F' : FT} {b : Int32} (hb : nI (cnt (fun k => wN F (g 16 0) c < wN F (g 16 0) k) 8) = b) (hcd : F' 25 0 = nI 0) (hq : Nx P Z Z F') : Tt Γ M_X9_rank [.ref 800000, .int (nI c)] Z (QVo P Z F' b) (QXo P Z F' [xIO]) := by
  refine Tt_of' rfl rfl rfl ?_
  show G Γ M_X9_rank (rm M_X9_rank) (Vt Γ M_X9_rank (QVo P Z F' b) (QXo P Z F' [xIO])) (0, 0) 0 [some (.ref 800000), some (.int (nI c)), none, none, none, none, none] [] Z
  have h0 := h
  obtain ⟨hH, ⟨hPI, hPG, hZo⟩, ⟨hZh, hZd, hZw⟩, ⟨hZt, hZc, hZf⟩, ⟨hZr, hZs, hZl⟩, hZfr, hZbd⟩ := h0
  have loop : ∀ (n9 j : Nat) (v6 : Option Value), j + n9 = 8 → G Γ M_X9_rank (rm M_X9_rank) (Vt Γ M_X9_rank (QVo P Z F' b) (QXo P Z F' [xIO])) (1, 6) 18 [some (.ref 800000), some (.int (nI c)), some (.int (nI (cnt (fun k => wN F (g 16 0) c < wN F (g 16 0) k) j))), some (.ref 1800007), some (.int (nI 8)), some (.int (nI j)), v6] [] Z := by
    intro n9
    induction n9 with
    | zero =>
      intro j v6 hj
      obtain rfl : j = 8 := by omega
      refine G_iload (pc := 18) dX9_rank_18 rfl ?_
      refine G_iload (pc := 20) dX9_rank_20 rfl ?_
      refine G_icmp_geN (pc := 22) (tgt := 51) (by omega) (by omega) dX9_rank_22 (by decide) (fun c22 => ?_) (fun c22 => ?_)
      · skip
        refine G_iload_n (pc := 51) dX9_rank_51 rfl ?_
        refine G_iret (pc := 52) VZ.x dX9_rank_52 rfl ⟨by decide, by decide⟩ ?_
        exact ⟨congrArg (fun z => some (Value.int z)) hb, hcd, hq⟩
      · omega
    | succ n9 ih =>
      intro j v6 hj
      have hj9 : j < 8 := by omega
      refine G_iload (pc := 18) dX9_rank_18 rfl ?_
      refine G_iload (pc := 20) dX9_rank_20 rfl ?_
      refine G_icmp_geN (pc := 22) (tgt := 51) (by omega) (by omega) dX9_rank_22 (by decide) (fun c22 => ?_) (fun c22 => ?_)
      · omega
      · skip
        refine G_aload_n (pc := 25) dX9_rank_25 rfl ?_
        refine G_iload (pc := 26) dX9_rank_26 rfl ?_
        refine G_ialdv (pc := 28) (j := j) (v := nI (wN F (g 16 0) j)) (hZw j hj9) (sh_c7 hH) rfl (Nat.lt_of_lt_of_eq hj9 (sh_n7 hH).symm) (by omega) dX9_rank_28 ?_
        refine G_istore (pc := 29) dX9_rank_29 (by decide) ?_
        have w1 := cnt_le (fun k => ¬ F 112 k = 0 ∧ F 117 k = nI j) (g 16 0)
        have w2 := cnt_le (fun k => ¬ F 112 k = 0 ∧ F 117 k = nI c) (g 16 0)
        have w3 : wN F (g 16 0) j ≤ 20 := Nat.le_trans w1 hPI.1.2.2
        have w4 : wN F (g 16 0) c ≤ 20 := Nat.le_trans w2 hPI.1.2.2
        refine G_iload (pc := 31) dX9_rank_31 rfl ?_
        refine G_aload_n (pc := 33) dX9_rank_33 rfl ?_
        refine G_getS (pc := 34) fl_X9_49 (sh_k hH) rfl (sh_r7 hH) dX9_rank_34 ?_
        refine G_iload_n (pc := 37) dX9_rank_37 rfl ?_
        refine G_ialdv (pc := 38) (j := c) (v := nI (wN F (g 16 0) c)) (hZw c hc) (sh_c7 hH) rfl (Nat.lt_of_lt_of_eq hc (sh_n7 hH).symm) (by omega) dX9_rank_38 ?_
        refine G_icmp_leN (pc := 39) (tgt := 45) (by omega) (by omega) dX9_rank_39 (by decide) (fun c39 => ?_) (fun c39 => ?_)
        · skip
          refine G_iincN (pc := 45) dX9_rank_45 rfl (by decide) ?_
          refine G_goto (pc := 48) (tgt := 18) dX9_rank_48 (by decide) ?_
          have h9 := ih (j + 1) (some (.int (nI (wN F (g 16 0) j)))) (by omega)
          first
            | (rw [cnt_f (p := fun k => wN F (g 16 0) c < wN F (g 16 0) k) (by omega)] at h9; exact h9)
            | (rw [cnt_t (p := fun k => wN F (g 16 0) c < wN F (g 16 0) k) (by omega)] at h9; exact h9)
        · skip
          refine G_iincN (pc := 42) dX9_rank_42 rfl (by decide) ?_
          refine G_iincN (pc := 45) dX9_rank_45 rfl (by decide) ?_
          refine G_goto (pc := 48) (tgt := 18) dX9_rank_48 (by decide) ?_
          have h9 := ih (j + 1) (some (.int (nI (wN F (g 16 0) j)))) (by omega)
          first
            | (rw [cnt_f (p := fun k => wN F (g 16 0) c < wN F (g 16 0) k) (by omega)] at h9; exact h9)
            | (rw [cnt_t (p := fun k => wN F (g 16 0) c < wN F (g 16 0) k) (by omega)] at h9; exact h9)
  refine G_iload_n (pc := 0) dX9_rank_0 rfl ?_
  refine K_Sn1v (pc := 1) (k' := (1, 6)) mok_X9_requireCustomer lk_X9_79 rfl (aok0 rfl) dX9_rank_1 (C_custN hc) rfl ?_
  refine G_iconst (pc := 4) (v := nI 0) dX9_rank_4 (by first | rfl | decide) ?_
  refine G_istore_n (pc := 5) dX9_rank_5 (by decide) ?_
  refine G_aload_n (pc := 6) dX9_rank_6 rfl ?_
  refine G_getS (pc := 7) fl_X9_49 (sh_k hH) rfl (sh_r7 hH) dX9_rank_7 ?_
  refine G_astore_n (pc := 10) dX9_rank_10 (by decide) ?_
  refine G_aload_n (pc := 11) dX9_rank_11 rfl ?_
  refine G_alen (pc := 12) (v := nI 8) (sh_c7 hH) (by decide) (congrArg nI (sh_n7 hH)) dX9_rank_12 ?_
  refine G_istore (pc := 13) dX9_rank_13 (by decide) ?_
  refine G_iconst (pc := 15) (v := nI 0) dX9_rank_15 (by first | rfl | decide) ?_
  refine G_istore (pc := 16) dX9_rank_16 (by decide) ?_
  exact loop 8 0 _ rfl
theorem K_rankX {Γ : GTy} {Z : HS} {n : Nat} {P : HS → FT → Prop} {F A : FT} {g : GN} (h : CI n Z F g A) {x : Int32} (hx : ¬ (nI 0 ≤ x ∧ x ≤ nI 7)) {F' : FT} {b : Int32} (hcd : F' 25 0 = nI 1) (hq : Nx P Z Z F') : Tt Γ M_X9_rank [.ref 800000, .int x] Z (QVo P Z F' b) (QXo P Z F' [xIO]) := by
  refine Tt_of' rfl rfl rfl ?_
  show G Γ M_X9_rank (rm M_X9_rank) (Vt Γ M_X9_rank (QVo P Z F' b) (QXo P Z F' [xIO])) (0, 0) 0 [some (.ref 800000), some (.int x), none, none, none, none, none] [] Z
  have h0 := h
  obtain ⟨hH, ⟨hPI, hPG, hZo⟩, ⟨hZh, hZd, hZw⟩, ⟨hZt, hZc, hZf⟩, ⟨hZr, hZs, hZl⟩, hZfr, hZbd⟩ := h0
  refine G_iload_n (pc := 0) dX9_rank_0 rfl ?_
  refine K_S1 (pc := 1) (k' := (1, 6)) mok_X9_requireCustomer lk_X9_79 rfl (aok0 rfl) dX9_rank_1 (C_custX hx) rfl (fun v1 Y1 q1 => ?_) (fun E1 Y1 q1 => ?_)
  · exact q1.elim
  · (obtain ⟨rfl, rfl⟩ := q1; exact GX_out rfl ⟨by decide, by decide⟩ ⟨0, rfl, hcd, hq⟩)
theorem K_wearN {Γ : GTy} {Z : HS} {n : Nat} {P : HS → FT → Prop} {F A : FT} {g : GN} (h : CI n Z F g A) {u : Nat} (hu : u < 6) {F' : FT} {b : Int32} (hb : F 108 u = b) (hcd : F' 25 0 = nI 0) (hq : Nx P Z Z F') : Tt Γ M_X9_wear [.ref 800000, .int (nI u)] Z (QVo P Z F' b) (QXo P Z F' [xIO]) := by
  refine Tt_of' rfl rfl rfl ?_
  show G Γ M_X9_wear (rm M_X9_wear) (Vt Γ M_X9_wear (QVo P Z F' b) (QXo P Z F' [xIO])) (0, 0) 0 [some (.ref 800000), some (.int (nI u))] [] Z
  have h0 := h
  obtain ⟨hH, ⟨hPI, hPG, hZo⟩, ⟨hZh, hZd, hZw⟩, ⟨hZt, hZc, hZf⟩, ⟨hZr, hZs, hZl⟩, hZfr, hZbd⟩ := h0
  refine G_aload_n (pc := 0) dX9_wear_0 rfl ?_
  refine G_iload_n (pc := 1) dX9_wear_1 rfl ?_
  refine K_Vn1r (pc := 2) (k' := (1, 6)) mok_X9_cueAt lk_X9_222 (sh_k hH) rfl rfl rfl (aok0 rfl) dX9_wear_2 (C_cueAtN hH hu) rfl ?_
  refine G_getIv (pc := 5) (v := F 108 u) (hZc u hu).1 fl_X9_231 (hH.2.2.2.1 u hu).1 rfl dX9_wear_5 ?_
  refine G_iret (pc := 8) VZ.x dX9_wear_8 rfl ⟨by decide, by decide⟩ ?_
  exact ⟨congrArg (fun z => some (Value.int z)) hb, hcd, hq⟩
theorem K_wearX {Γ : GTy} {Z : HS} {n : Nat} {P : HS → FT → Prop} {F A : FT} {g : GN} (h : CI n Z F g A) {x : Int32} (hx : ¬ (nI 0 ≤ x ∧ x ≤ nI 5)) {F' : FT} {b : Int32} (hcd : F' 25 0 = nI 1) (hq : Nx P Z Z F') : Tt Γ M_X9_wear [.ref 800000, .int x] Z (QVo P Z F' b) (QXo P Z F' [xIO]) := by
  refine Tt_of' rfl rfl rfl ?_
  show G Γ M_X9_wear (rm M_X9_wear) (Vt Γ M_X9_wear (QVo P Z F' b) (QXo P Z F' [xIO])) (0, 0) 0 [some (.ref 800000), some (.int x)] [] Z
  have h0 := h
  obtain ⟨hH, ⟨hPI, hPG, hZo⟩, ⟨hZh, hZd, hZw⟩, ⟨hZt, hZc, hZf⟩, ⟨hZr, hZs, hZl⟩, hZfr, hZbd⟩ := h0
  refine G_aload_n (pc := 0) dX9_wear_0 rfl ?_
  refine G_iload_n (pc := 1) dX9_wear_1 rfl ?_
  refine K_V1 (pc := 2) (k' := (1, 6)) mok_X9_cueAt lk_X9_222 (sh_k hH) rfl rfl rfl (aok0 rfl) dX9_wear_2 (C_cueAtX hH hx) rfl (fun v1 Y1 q1 => ?_) (fun E1 Y1 q1 => ?_)
  · exact q1.elim
  · (obtain ⟨rfl, rfl⟩ := q1; exact GX_out rfl ⟨by decide, by decide⟩ ⟨0, rfl, hcd, hq⟩)
theorem K_forceN0 {Γ : GTy} {Z : HS} {n : Nat} {P : HS → FT → Prop} {F A : FT} {g : GN} (h : CI n Z F g A) {c : Nat} {z : Int32} (hc : c < 8) (hz : nI 1 ≤ z ∧ z ≤ nI 40) (he : lastW (fun k => F 107 k = nI (c + 1)) 6 = -1) {F' : FT} {b : Int32} (hb : clip1 (nI 3 * z / nI 4) = b) (hcd : F' 25 0 = nI 0) (hq : Nx P Z Z F') : Tt Γ M_X9_force [.ref 800000, .int (nI c), .int z] Z (QVo P Z F' b) (QXo P Z F' [xIO, xIA]) := by
  refine Tt_of' rfl rfl rfl ?_
  show G Γ M_X9_force (rm M_X9_force) (Vt Γ M_X9_force (QVo P Z F' b) (QXo P Z F' [xIO, xIA])) (0, 0) 0 [some (.ref 800000), some (.int (nI c)), some (.int z)] [] Z
  have h0 := h
  obtain ⟨hH, ⟨hPI, hPG, hZo⟩, ⟨hZh, hZd, hZw⟩, ⟨hZt, hZc, hZf⟩, ⟨hZr, hZs, hZl⟩, hZfr, hZbd⟩ := h0
  refine G_iload_n (pc := 0) dX9_force_0 rfl ?_
  refine K_Sn1v (pc := 1) (k' := (1, 6)) mok_X9_requireCustomer lk_X9_79 rfl (aok0 rfl) dX9_force_1 (C_custN hc) rfl ?_
  refine G_iload_n (pc := 4) dX9_force_4 rfl ?_
  refine G_iconst (pc := 5) (v := nI 1) dX9_force_5 (by first | rfl | decide) ?_
  refine G_bipush (pc := 6) (v := nI 40) dX9_force_6 (by first | rfl | decide) ?_
  refine K_Sn3v (pc := 8) (k' := (2, 12)) mok_X9_requireRange lk_X9_71 rfl (aok0 rfl) dX9_force_8 (C_rangeN hz) rfl ?_
  refine G_aload_n (pc := 11) dX9_force_11 rfl ?_
  refine G_iload_n (pc := 12) dX9_force_12 rfl ?_
  refine K_Vn1r (pc := 13) (k' := (2, 12)) mok_X9_cueHeldBy lk_X9_191 (sh_k hH) rfl rfl rfl (aok0 rfl) dX9_force_13 (C_cueHeldN h hc he) rfl ?_
  refine G_iload_n (pc := 16) dX9_force_16 rfl ?_
  refine K_Sn2r (pc := 17) (k' := (2, 12)) mok_X9_forceWith lk_X9_198 rfl (aok0 rfl) dX9_force_17 (C_forceN z) rfl ?_
  refine G_iret (pc := 20) VZ.x dX9_force_20 rfl ⟨by decide, by decide⟩ ?_
  exact ⟨congrArg (fun z => some (Value.int z)) hb, hcd, hq⟩
theorem K_forceN1 {Γ : GTy} {Z : HS} {n : Nat} {P : HS → FT → Prop} {F A : FT} {g : GN} (h : CI n Z F g A) {c u : Nat} {z : Int32} (hc : c < 8) (hu : u < 6) (hz : nI 1 ≤ z ∧ z ≤ nI 40) (he : F 107 u = nI (c + 1)) {F' : FT} {b : Int32} (hb : clip1 (z * (nI 200 - F 108 u) / nI 200) = b) (hcd : F' 25 0 = nI 0) (hq : Nx P Z Z F') : Tt Γ M_X9_force [.ref 800000, .int (nI c), .int z] Z (QVo P Z F' b) (QXo P Z F' [xIO, xIA]) := by
  refine Tt_of' rfl rfl rfl ?_
  show G Γ M_X9_force (rm M_X9_force) (Vt Γ M_X9_force (QVo P Z F' b) (QXo P Z F' [xIO, xIA])) (0, 0) 0 [some (.ref 800000), some (.int (nI c)), some (.int z)] [] Z
  have h0 := h
  obtain ⟨hH, ⟨hPI, hPG, hZo⟩, ⟨hZh, hZd, hZw⟩, ⟨hZt, hZc, hZf⟩, ⟨hZr, hZs, hZl⟩, hZfr, hZbd⟩ := h0
  refine G_iload_n (pc := 0) dX9_force_0 rfl ?_
  refine K_Sn1v (pc := 1) (k' := (1, 6)) mok_X9_requireCustomer lk_X9_79 rfl (aok0 rfl) dX9_force_1 (C_custN hc) rfl ?_
  refine G_iload_n (pc := 4) dX9_force_4 rfl ?_
  refine G_iconst (pc := 5) (v := nI 1) dX9_force_5 (by first | rfl | decide) ?_
  refine G_bipush (pc := 6) (v := nI 40) dX9_force_6 (by first | rfl | decide) ?_
  refine K_Sn3v (pc := 8) (k' := (2, 12)) mok_X9_requireRange lk_X9_71 rfl (aok0 rfl) dX9_force_8 (C_rangeN hz) rfl ?_
  refine G_aload_n (pc := 11) dX9_force_11 rfl ?_
  refine G_iload_n (pc := 12) dX9_force_12 rfl ?_
  refine K_Vn1r (pc := 13) (k' := (2, 12)) mok_X9_cueHeldBy lk_X9_191 (sh_k hH) rfl rfl rfl (aok0 rfl) dX9_force_13 (C_cueHeldS h hc hu he) rfl ?_
  refine G_iload_n (pc := 16) dX9_force_16 rfl ?_
  refine K_Sn2r (pc := 17) (k' := (2, 12)) mok_X9_forceWith lk_X9_198 rfl (aok0 rfl) dX9_force_17 (C_forceS (hH.2.2.2.1 u hu).1 (hZc u hu).1 z) rfl ?_
  refine G_iret (pc := 20) VZ.x dX9_force_20 rfl ⟨by decide, by decide⟩ ?_
  exact ⟨congrArg (fun z => some (Value.int z)) hb, hcd, hq⟩
theorem K_forceX {Γ : GTy} {Z : HS} {n : Nat} {P : HS → FT → Prop} {F A : FT} {g : GN} (h : CI n Z F g A) {x z : Int32} (hx : ¬ (nI 0 ≤ x ∧ x ≤ nI 7)) {F' : FT} {b : Int32} (hcd : F' 25 0 = nI 1) (hq : Nx P Z Z F') : Tt Γ M_X9_force [.ref 800000, .int x, .int z] Z (QVo P Z F' b) (QXo P Z F' [xIO, xIA]) := by
  refine Tt_of' rfl rfl rfl ?_
  show G Γ M_X9_force (rm M_X9_force) (Vt Γ M_X9_force (QVo P Z F' b) (QXo P Z F' [xIO, xIA])) (0, 0) 0 [some (.ref 800000), some (.int x), some (.int z)] [] Z
  have h0 := h
  obtain ⟨hH, ⟨hPI, hPG, hZo⟩, ⟨hZh, hZd, hZw⟩, ⟨hZt, hZc, hZf⟩, ⟨hZr, hZs, hZl⟩, hZfr, hZbd⟩ := h0
  refine G_iload_n (pc := 0) dX9_force_0 rfl ?_
  refine K_S1 (pc := 1) (k' := (1, 6)) mok_X9_requireCustomer lk_X9_79 rfl (aok0 rfl) dX9_force_1 (C_custX hx) rfl (fun v1 Y1 q1 => ?_) (fun E1 Y1 q1 => ?_)
  · exact q1.elim
  · (obtain ⟨rfl, rfl⟩ := q1; exact GX_out rfl ⟨by decide, by decide⟩ ⟨0, rfl, hcd, hq⟩)
theorem K_forceY {Γ : GTy} {Z : HS} {n : Nat} {P : HS → FT → Prop} {F A : FT} {g : GN} (h : CI n Z F g A) {c : Nat} {z : Int32} (hc : c < 8) (hz : ¬ (nI 1 ≤ z ∧ z ≤ nI 40)) {F' : FT} {b : Int32} (hcd : F' 25 0 = nI 2) (hq : Nx P Z Z F') : Tt Γ M_X9_force [.ref 800000, .int (nI c), .int z] Z (QVo P Z F' b) (QXo P Z F' [xIO, xIA]) := by
  refine Tt_of' rfl rfl rfl ?_
  show G Γ M_X9_force (rm M_X9_force) (Vt Γ M_X9_force (QVo P Z F' b) (QXo P Z F' [xIO, xIA])) (0, 0) 0 [some (.ref 800000), some (.int (nI c)), some (.int z)] [] Z
  have h0 := h
  obtain ⟨hH, ⟨hPI, hPG, hZo⟩, ⟨hZh, hZd, hZw⟩, ⟨hZt, hZc, hZf⟩, ⟨hZr, hZs, hZl⟩, hZfr, hZbd⟩ := h0
  refine G_iload_n (pc := 0) dX9_force_0 rfl ?_
  refine K_Sn1v (pc := 1) (k' := (1, 6)) mok_X9_requireCustomer lk_X9_79 rfl (aok0 rfl) dX9_force_1 (C_custN hc) rfl ?_
  refine G_iload_n (pc := 4) dX9_force_4 rfl ?_
  refine G_iconst (pc := 5) (v := nI 1) dX9_force_5 (by first | rfl | decide) ?_
  refine G_bipush (pc := 6) (v := nI 40) dX9_force_6 (by first | rfl | decide) ?_
  refine K_S3 (pc := 8) (k' := (2, 12)) mok_X9_requireRange lk_X9_71 rfl (aok0 rfl) dX9_force_8 (C_rangeX hz) rfl (fun v1 Y1 q1 => ?_) (fun E1 Y1 q1 => ?_)
  · exact q1.elim
  · (obtain ⟨rfl, rfl⟩ := q1; exact GX_out rfl ⟨by decide, by decide⟩ ⟨1, rfl, hcd, hq⟩)
theorem K_winnerN {Γ : GTy} {Z : HS} {n : Nat} {P : HS → FT → Prop} {F A : FT} {g : GN} (h : CI n Z F g A) {f : Nat} (hf : f < g 16 0)  {F' : FT} {b : Int32} (hb : F 117 f = b) (hcd : F' 25 0 = nI 0) (hq : Nx P Z Z F') : Tt Γ M_X9_winner [.ref 800000, .int (nI f)] Z (QVo P Z F' b) (QXo P Z F' [xIO]) := by
  refine Tt_of' rfl rfl rfl ?_
  show G Γ M_X9_winner (rm M_X9_winner) (Vt Γ M_X9_winner (QVo P Z F' b) (QXo P Z F' [xIO])) (0, 0) 0 [some (.ref 800000), some (.int (nI f))] [] Z
  have h0 := h
  obtain ⟨hH, ⟨hPI, hPG, hZo⟩, ⟨hZh, hZd, hZw⟩, ⟨hZt, hZc, hZf⟩, ⟨hZr, hZs, hZl⟩, hZfr, hZbd⟩ := h0
  refine G_aload_n (pc := 0) dX9_winner_0 rfl ?_
  refine G_iload_n (pc := 1) dX9_winner_1 rfl ?_
  refine K_Vn1r (pc := 2) (k' := (1, 6)) mok_X9_frameAt lk_X9_164 (sh_k hH) rfl rfl rfl (aok0 rfl) dX9_winner_2 (C_frameAtN hH hf hZh.1.1 hPI.1.2.2 (hZf f hf).2.1 (hZf f hf).1.1) rfl ?_
  refine G_getIv (pc := 5) (v := F 117 f) ((hZf f hf).2.2.2.1.1 10 (by decide) (by decide)) fl_X9_285 (hZf f hf).1.1 rfl dX9_winner_5 ?_
  refine G_iret (pc := 8) VZ.x dX9_winner_8 rfl ⟨by decide, by decide⟩ ?_
  exact ⟨congrArg (fun z => some (Value.int z)) hb, hcd, hq⟩
theorem K_winnerX {Γ : GTy} {Z : HS} {n : Nat} {P : HS → FT → Prop} {F A : FT} {g : GN} (h : CI n Z F g A) {x : Int32} (hx : ¬ (nI 0 ≤ x ∧ x ≤ nI (g 16 0) - nI 1)) {F' : FT} {b : Int32} (hcd : F' 25 0 = nI 1) (hq : Nx P Z Z F') : Tt Γ M_X9_winner [.ref 800000, .int x] Z (QVo P Z F' b) (QXo P Z F' [xIO]) := by
  refine Tt_of' rfl rfl rfl ?_
  show G Γ M_X9_winner (rm M_X9_winner) (Vt Γ M_X9_winner (QVo P Z F' b) (QXo P Z F' [xIO])) (0, 0) 0 [some (.ref 800000), some (.int x)] [] Z
  have h0 := h
  obtain ⟨hH, ⟨hPI, hPG, hZo⟩, ⟨hZh, hZd, hZw⟩, ⟨hZt, hZc, hZf⟩, ⟨hZr, hZs, hZl⟩, hZfr, hZbd⟩ := h0
  refine G_aload_n (pc := 0) dX9_winner_0 rfl ?_
  refine G_iload_n (pc := 1) dX9_winner_1 rfl ?_
  refine K_V1 (pc := 2) (k' := (1, 6)) mok_X9_frameAt lk_X9_164 (sh_k hH) rfl rfl rfl (aok0 rfl) dX9_winner_2 (C_frameAtX hH hZh.1.1 hPI.1.2.2 hx) rfl (fun v1 Y1 q1 => ?_) (fun E1 Y1 q1 => ?_)
  · exact q1.elim
  · (obtain ⟨rfl, rfl⟩ := q1; exact GX_out rfl ⟨by decide, by decide⟩ ⟨0, rfl, hcd, hq⟩)
theorem K_isFreeN {Γ : GTy} {Z : HS} {n : Nat} {P : HS → FT → Prop} {F A : FT} {g : GN} (h : CI n Z F g A) {f : Nat} (hf : f < g 16 0)  {F' : FT} {b : Int32} (hb : F 116 f = b) (hcd : F' 25 0 = nI 0) (hq : Nx P Z Z F') : Tt Γ M_X9_isFree [.ref 800000, .int (nI f)] Z (QVo P Z F' b) (QXo P Z F' [xIO]) := by
  refine Tt_of' rfl rfl rfl ?_
  show G Γ M_X9_isFree (rm M_X9_isFree) (Vt Γ M_X9_isFree (QVo P Z F' b) (QXo P Z F' [xIO])) (0, 0) 0 [some (.ref 800000), some (.int (nI f))] [] Z
  have h0 := h
  obtain ⟨hH, ⟨hPI, hPG, hZo⟩, ⟨hZh, hZd, hZw⟩, ⟨hZt, hZc, hZf⟩, ⟨hZr, hZs, hZl⟩, hZfr, hZbd⟩ := h0
  refine G_aload_n (pc := 0) dX9_isFree_0 rfl ?_
  refine G_iload_n (pc := 1) dX9_isFree_1 rfl ?_
  refine K_Vn1r (pc := 2) (k' := (1, 6)) mok_X9_frameAt lk_X9_164 (sh_k hH) rfl rfl rfl (aok0 rfl) dX9_isFree_2 (C_frameAtN hH hf hZh.1.1 hPI.1.2.2 (hZf f hf).2.1 (hZf f hf).1.1) rfl ?_
  refine G_getIv (pc := 5) (v := F 116 f) ((hZf f hf).2.2.2.1.1 7 (by decide) (by decide)) fl_X9_276 (hZf f hf).1.1 rfl dX9_isFree_5 ?_
  refine G_zret (pc := 8) VZ.x dX9_isFree_8 rfl ((hPI.2.2.2.2.1 f hf).1.2.2.2.2.1) ⟨by decide, by decide⟩ ?_
  exact ⟨congrArg (fun z => some (Value.int z)) hb, hcd, hq⟩
theorem K_isFreeX {Γ : GTy} {Z : HS} {n : Nat} {P : HS → FT → Prop} {F A : FT} {g : GN} (h : CI n Z F g A) {x : Int32} (hx : ¬ (nI 0 ≤ x ∧ x ≤ nI (g 16 0) - nI 1)) {F' : FT} {b : Int32} (hcd : F' 25 0 = nI 1) (hq : Nx P Z Z F') : Tt Γ M_X9_isFree [.ref 800000, .int x] Z (QVo P Z F' b) (QXo P Z F' [xIO]) := by
  refine Tt_of' rfl rfl rfl ?_
  show G Γ M_X9_isFree (rm M_X9_isFree) (Vt Γ M_X9_isFree (QVo P Z F' b) (QXo P Z F' [xIO])) (0, 0) 0 [some (.ref 800000), some (.int x)] [] Z
  have h0 := h
  obtain ⟨hH, ⟨hPI, hPG, hZo⟩, ⟨hZh, hZd, hZw⟩, ⟨hZt, hZc, hZf⟩, ⟨hZr, hZs, hZl⟩, hZfr, hZbd⟩ := h0
  refine G_aload_n (pc := 0) dX9_isFree_0 rfl ?_
  refine G_iload_n (pc := 1) dX9_isFree_1 rfl ?_
  refine K_V1 (pc := 2) (k' := (1, 6)) mok_X9_frameAt lk_X9_164 (sh_k hH) rfl rfl rfl (aok0 rfl) dX9_isFree_2 (C_frameAtX hH hZh.1.1 hPI.1.2.2 hx) rfl (fun v1 Y1 q1 => ?_) (fun E1 Y1 q1 => ?_)
  · exact q1.elim
  · (obtain ⟨rfl, rfl⟩ := q1; exact GX_out rfl ⟨by decide, by decide⟩ ⟨0, rfl, hcd, hq⟩)
theorem K_ballOnN {Γ : GTy} {Z : HS} {n : Nat} {P : HS → FT → Prop} {F A : FT} {g : GN} (h : CI n Z F g A) {f : Nat} (hf : f < g 16 0)  {F' : FT} {b : Int32} (hb : lowF F f = b) (hcd : F' 25 0 = nI 0) (hq : Nx P Z Z F') : Tt Γ M_X9_ballOn [.ref 800000, .int (nI f)] Z (QVo P Z F' b) (QXo P Z F' [xIO]) := by
  refine Tt_of' rfl rfl rfl ?_
  show G Γ M_X9_ballOn (rm M_X9_ballOn) (Vt Γ M_X9_ballOn (QVo P Z F' b) (QXo P Z F' [xIO])) (0, 0) 0 [some (.ref 800000), some (.int (nI f))] [] Z
  have h0 := h
  obtain ⟨hH, ⟨hPI, hPG, hZo⟩, ⟨hZh, hZd, hZw⟩, ⟨hZt, hZc, hZf⟩, ⟨hZr, hZs, hZl⟩, hZfr, hZbd⟩ := h0
  refine G_aload_n (pc := 0) dX9_ballOn_0 rfl ?_
  refine G_iload_n (pc := 1) dX9_ballOn_1 rfl ?_
  refine K_Vn1r (pc := 2) (k' := (1, 6)) mok_X9_frameAt lk_X9_164 (sh_k hH) rfl rfl rfl (aok0 rfl) dX9_ballOn_2 (C_frameAtN hH hf hZh.1.1 hPI.1.2.2 (hZf f hf).2.1 (hZf f hf).1.1) rfl ?_
  refine K_Vn0r (pc := 5) (k' := (1, 6)) mok_X2_lowestBall lk_X9_273 (hZf f hf).1.1 rfl rfl rfl (aok0 rfl) dX9_ballOn_5 (D_lowest h hf) rfl ?_
  refine G_iret (pc := 8) VZ.x dX9_ballOn_8 rfl ⟨by decide, by decide⟩ ?_
  exact ⟨congrArg (fun z => some (Value.int z)) hb, hcd, hq⟩
theorem K_ballOnX {Γ : GTy} {Z : HS} {n : Nat} {P : HS → FT → Prop} {F A : FT} {g : GN} (h : CI n Z F g A) {x : Int32} (hx : ¬ (nI 0 ≤ x ∧ x ≤ nI (g 16 0) - nI 1)) {F' : FT} {b : Int32} (hcd : F' 25 0 = nI 1) (hq : Nx P Z Z F') : Tt Γ M_X9_ballOn [.ref 800000, .int x] Z (QVo P Z F' b) (QXo P Z F' [xIO]) := by
  refine Tt_of' rfl rfl rfl ?_
  show G Γ M_X9_ballOn (rm M_X9_ballOn) (Vt Γ M_X9_ballOn (QVo P Z F' b) (QXo P Z F' [xIO])) (0, 0) 0 [some (.ref 800000), some (.int x)] [] Z
  have h0 := h
  obtain ⟨hH, ⟨hPI, hPG, hZo⟩, ⟨hZh, hZd, hZw⟩, ⟨hZt, hZc, hZf⟩, ⟨hZr, hZs, hZl⟩, hZfr, hZbd⟩ := h0
  refine G_aload_n (pc := 0) dX9_ballOn_0 rfl ?_
  refine G_iload_n (pc := 1) dX9_ballOn_1 rfl ?_
  refine K_V1 (pc := 2) (k' := (1, 6)) mok_X9_frameAt lk_X9_164 (sh_k hH) rfl rfl rfl (aok0 rfl) dX9_ballOn_2 (C_frameAtX hH hZh.1.1 hPI.1.2.2 hx) rfl (fun v1 Y1 q1 => ?_) (fun E1 Y1 q1 => ?_)
  · exact q1.elim
  · (obtain ⟨rfl, rfl⟩ := q1; exact GX_out rfl ⟨by decide, by decide⟩ ⟨0, rfl, hcd, hq⟩)
theorem K_pointsN0 {Γ : GTy} {Z : HS} {n : Nat} {P : HS → FT → Prop} {F A : FT} {g : GN} (h : CI n Z F g A) {f : Nat} (hf : f < g 16 0) {z : Int32} (hz : z = 0) {F' : FT} {b : Int32} (hb : F 115 (2 * f) = b) (hcd : F' 25 0 = nI 0) (hq : Nx P Z Z F') : Tt Γ M_X9_points [.ref 800000, .int (nI f), .int z] Z (QVo P Z F' b) (QXo P Z F' [xIO]) := by
  refine Tt_of' rfl rfl rfl ?_
  show G Γ M_X9_points (rm M_X9_points) (Vt Γ M_X9_points (QVo P Z F' b) (QXo P Z F' [xIO])) (0, 0) 0 [some (.ref 800000), some (.int (nI f)), some (.int z), none] [] Z
  have h0 := h
  obtain ⟨hH, ⟨hPI, hPG, hZo⟩, ⟨hZh, hZd, hZw⟩, ⟨hZt, hZc, hZf⟩, ⟨hZr, hZs, hZl⟩, hZfr, hZbd⟩ := h0
  refine G_aload_n (pc := 0) dX9_points_0 rfl ?_
  refine G_iload_n (pc := 1) dX9_points_1 rfl ?_
  refine K_Vn1r (pc := 2) (k' := (1, 6)) mok_X9_frameAt lk_X9_164 (sh_k hH) rfl rfl rfl (aok0 rfl) dX9_points_2 (C_frameAtN hH hf hZh.1.1 hPI.1.2.2 (hZf f hf).2.1 (hZf f hf).1.1) rfl ?_
  refine G_astore_n (pc := 5) dX9_points_5 (by decide) ?_
  refine G_iload_n (pc := 6) dX9_points_6 rfl ?_
  refine G_if_eq (pc := 7) (tgt := 17) dX9_points_7 (by decide) (fun c7 => ?_) (fun c7 => ?_)
  · skip
    refine G_aload_n (pc := 17) dX9_points_17 rfl ?_
    refine G_getIv (pc := 18) (v := F 115 (2 * f)) ((hZf f hf).2.2.2.1.1 8 (by decide) (by decide)) fl_X9_282 (hZf f hf).1.1 rfl dX9_points_18 ?_
    refine G_iret (pc := 21) VZ.x dX9_points_21 rfl ⟨by decide, by decide⟩ ?_
    exact ⟨congrArg (fun z => some (Value.int z)) hb, hcd, hq⟩
  · exact absurd hz c7
theorem K_pointsN1 {Γ : GTy} {Z : HS} {n : Nat} {P : HS → FT → Prop} {F A : FT} {g : GN} (h : CI n Z F g A) {f : Nat} (hf : f < g 16 0) {z : Int32} (hz : ¬ z = 0) {F' : FT} {b : Int32} (hb : F 115 (2 * f + 1) = b) (hcd : F' 25 0 = nI 0) (hq : Nx P Z Z F') : Tt Γ M_X9_points [.ref 800000, .int (nI f), .int z] Z (QVo P Z F' b) (QXo P Z F' [xIO]) := by
  refine Tt_of' rfl rfl rfl ?_
  show G Γ M_X9_points (rm M_X9_points) (Vt Γ M_X9_points (QVo P Z F' b) (QXo P Z F' [xIO])) (0, 0) 0 [some (.ref 800000), some (.int (nI f)), some (.int z), none] [] Z
  have h0 := h
  obtain ⟨hH, ⟨hPI, hPG, hZo⟩, ⟨hZh, hZd, hZw⟩, ⟨hZt, hZc, hZf⟩, ⟨hZr, hZs, hZl⟩, hZfr, hZbd⟩ := h0
  refine G_aload_n (pc := 0) dX9_points_0 rfl ?_
  refine G_iload_n (pc := 1) dX9_points_1 rfl ?_
  refine K_Vn1r (pc := 2) (k' := (1, 6)) mok_X9_frameAt lk_X9_164 (sh_k hH) rfl rfl rfl (aok0 rfl) dX9_points_2 (C_frameAtN hH hf hZh.1.1 hPI.1.2.2 (hZf f hf).2.1 (hZf f hf).1.1) rfl ?_
  refine G_astore_n (pc := 5) dX9_points_5 (by decide) ?_
  refine G_iload_n (pc := 6) dX9_points_6 rfl ?_
  refine G_if_eq (pc := 7) (tgt := 17) dX9_points_7 (by decide) (fun c7 => ?_) (fun c7 => ?_)
  · exact absurd c7 hz
  · skip
    refine G_aload_n (pc := 10) dX9_points_10 rfl ?_
    refine G_getIv (pc := 11) (v := F 115 (2 * f + 1)) ((hZf f hf).2.2.2.1.1 9 (by decide) (by decide)) fl_X9_279 (hZf f hf).1.1 rfl dX9_points_11 ?_
    refine G_goto (pc := 14) (tgt := 21) dX9_points_14 (by decide) ?_
    refine G_iret (pc := 21) VZ.x dX9_points_21 rfl ⟨by decide, by decide⟩ ?_
    exact ⟨congrArg (fun z => some (Value.int z)) hb, hcd, hq⟩
theorem K_pointsX {Γ : GTy} {Z : HS} {n : Nat} {P : HS → FT → Prop} {F A : FT} {g : GN} (h : CI n Z F g A) {x z : Int32} (hx : ¬ (nI 0 ≤ x ∧ x ≤ nI (g 16 0) - nI 1)) {F' : FT} {b : Int32} (hcd : F' 25 0 = nI 1) (hq : Nx P Z Z F') : Tt Γ M_X9_points [.ref 800000, .int x, .int z] Z (QVo P Z F' b) (QXo P Z F' [xIO]) := by
  refine Tt_of' rfl rfl rfl ?_
  show G Γ M_X9_points (rm M_X9_points) (Vt Γ M_X9_points (QVo P Z F' b) (QXo P Z F' [xIO])) (0, 0) 0 [some (.ref 800000), some (.int x), some (.int z), none] [] Z
  have h0 := h
  obtain ⟨hH, ⟨hPI, hPG, hZo⟩, ⟨hZh, hZd, hZw⟩, ⟨hZt, hZc, hZf⟩, ⟨hZr, hZs, hZl⟩, hZfr, hZbd⟩ := h0
  refine G_aload_n (pc := 0) dX9_points_0 rfl ?_
  refine G_iload_n (pc := 1) dX9_points_1 rfl ?_
  refine K_V1 (pc := 2) (k' := (1, 6)) mok_X9_frameAt lk_X9_164 (sh_k hH) rfl rfl rfl (aok0 rfl) dX9_points_2 (C_frameAtX hH hZh.1.1 hPI.1.2.2 hx) rfl (fun v1 Y1 q1 => ?_) (fun E1 Y1 q1 => ?_)
  · exact q1.elim
  · (obtain ⟨rfl, rfl⟩ := q1; exact GX_out rfl ⟨by decide, by decide⟩ ⟨0, rfl, hcd, hq⟩)
theorem K_turnN0 {Γ : GTy} {Z : HS} {n : Nat} {P : HS → FT → Prop} {F A : FT} {g : GN} (h : CI n Z F g A) {f : Nat} (hf : f < g 16 0) (hw : ¬ F 117 f = -1) {F' : FT} {b : Int32} (hb : -1 = b) (hcd : F' 25 0 = nI 0) (hq : Nx P Z Z F') : Tt Γ M_X9_turn [.ref 800000, .int (nI f)] Z (QVo P Z F' b) (QXo P Z F' [xIO]) := by
  refine Tt_of' rfl rfl rfl ?_
  show G Γ M_X9_turn (rm M_X9_turn) (Vt Γ M_X9_turn (QVo P Z F' b) (QXo P Z F' [xIO])) (0, 0) 0 [some (.ref 800000), some (.int (nI f)), none] [] Z
  have h0 := h
  obtain ⟨hH, ⟨hPI, hPG, hZo⟩, ⟨hZh, hZd, hZw⟩, ⟨hZt, hZc, hZf⟩, ⟨hZr, hZs, hZl⟩, hZfr, hZbd⟩ := h0
  refine G_aload_n (pc := 0) dX9_turn_0 rfl ?_
  refine G_iload_n (pc := 1) dX9_turn_1 rfl ?_
  refine K_Vn1r (pc := 2) (k' := (1, 6)) mok_X9_frameAt lk_X9_164 (sh_k hH) rfl rfl rfl (aok0 rfl) dX9_turn_2 (C_frameAtN hH hf hZh.1.1 hPI.1.2.2 (hZf f hf).2.1 (hZf f hf).1.1) rfl ?_
  refine G_astore_n (pc := 5) dX9_turn_5 (by decide) ?_
  refine G_aload_n (pc := 6) dX9_turn_6 rfl ?_
  refine K_Vn0r (pc := 7) (k' := (1, 6)) mok_X2_isOver lk_X9_215 (hZf f hf).1.1 rfl rfl rfl (aok0 rfl) dX9_turn_7 (D_isOver h hf) rfl ?_
  refine G_if_eqB (pc := 10) (tgt := 17) dX9_turn_10 (by decide) (fun c10 => ?_) (fun c10 => ?_)
  · exact absurd hw c10
  · skip
    refine G_iconst (pc := 13) (v := -1) dX9_turn_13 (by first | rfl | decide) ?_
    refine G_goto (pc := 14) (tgt := 21) dX9_turn_14 (by decide) ?_
    refine G_iret (pc := 21) VZ.x dX9_turn_21 rfl ⟨by decide, by decide⟩ ?_
    exact ⟨congrArg (fun z => some (Value.int z)) hb, hcd, hq⟩
theorem K_turnN1 {Γ : GTy} {Z : HS} {n : Nat} {P : HS → FT → Prop} {F A : FT} {g : GN} (h : CI n Z F g A) {f : Nat} (hf : f < g 16 0) (hw : F 117 f = -1) {F' : FT} {b : Int32} (hb : F 111 (2 * f + g 22 f) = b) (hcd : F' 25 0 = nI 0) (hq : Nx P Z Z F') : Tt Γ M_X9_turn [.ref 800000, .int (nI f)] Z (QVo P Z F' b) (QXo P Z F' [xIO]) := by
  refine Tt_of' rfl rfl rfl ?_
  show G Γ M_X9_turn (rm M_X9_turn) (Vt Γ M_X9_turn (QVo P Z F' b) (QXo P Z F' [xIO])) (0, 0) 0 [some (.ref 800000), some (.int (nI f)), none] [] Z
  have h0 := h
  obtain ⟨hH, ⟨hPI, hPG, hZo⟩, ⟨hZh, hZd, hZw⟩, ⟨hZt, hZc, hZf⟩, ⟨hZr, hZs, hZl⟩, hZfr, hZbd⟩ := h0
  refine G_aload_n (pc := 0) dX9_turn_0 rfl ?_
  refine G_iload_n (pc := 1) dX9_turn_1 rfl ?_
  refine K_Vn1r (pc := 2) (k' := (1, 6)) mok_X9_frameAt lk_X9_164 (sh_k hH) rfl rfl rfl (aok0 rfl) dX9_turn_2 (C_frameAtN hH hf hZh.1.1 hPI.1.2.2 (hZf f hf).2.1 (hZf f hf).1.1) rfl ?_
  refine G_astore_n (pc := 5) dX9_turn_5 (by decide) ?_
  refine G_aload_n (pc := 6) dX9_turn_6 rfl ?_
  refine K_Vn0r (pc := 7) (k' := (1, 6)) mok_X2_isOver lk_X9_215 (hZf f hf).1.1 rfl rfl rfl (aok0 rfl) dX9_turn_7 (D_isOver h hf) rfl ?_
  refine G_if_eqB (pc := 10) (tgt := 17) dX9_turn_10 (by decide) (fun c10 => ?_) (fun c10 => ?_)
  · skip
    refine G_aload_n (pc := 17) dX9_turn_17 rfl ?_
    refine K_Vn0r (pc := 18) (k' := (1, 6)) mok_X2_player lk_X9_182 (hZf f hf).1.1 rfl rfl rfl (aok0 rfl) dX9_turn_18 (D_player h hf) rfl ?_
    refine G_iret (pc := 21) VZ.x dX9_turn_21 rfl ⟨by decide, by decide⟩ ?_
    exact ⟨congrArg (fun z => some (Value.int z)) hb, hcd, hq⟩
  · exact absurd hw c10
theorem K_turnX {Γ : GTy} {Z : HS} {n : Nat} {P : HS → FT → Prop} {F A : FT} {g : GN} (h : CI n Z F g A) {x : Int32} (hx : ¬ (nI 0 ≤ x ∧ x ≤ nI (g 16 0) - nI 1)) {F' : FT} {b : Int32} (hcd : F' 25 0 = nI 1) (hq : Nx P Z Z F') : Tt Γ M_X9_turn [.ref 800000, .int x] Z (QVo P Z F' b) (QXo P Z F' [xIO]) := by
  refine Tt_of' rfl rfl rfl ?_
  show G Γ M_X9_turn (rm M_X9_turn) (Vt Γ M_X9_turn (QVo P Z F' b) (QXo P Z F' [xIO])) (0, 0) 0 [some (.ref 800000), some (.int x), none] [] Z
  have h0 := h
  obtain ⟨hH, ⟨hPI, hPG, hZo⟩, ⟨hZh, hZd, hZw⟩, ⟨hZt, hZc, hZf⟩, ⟨hZr, hZs, hZl⟩, hZfr, hZbd⟩ := h0
  refine G_aload_n (pc := 0) dX9_turn_0 rfl ?_
  refine G_iload_n (pc := 1) dX9_turn_1 rfl ?_
  refine K_V1 (pc := 2) (k' := (1, 6)) mok_X9_frameAt lk_X9_164 (sh_k hH) rfl rfl rfl (aok0 rfl) dX9_turn_2 (C_frameAtX hH hZh.1.1 hPI.1.2.2 hx) rfl (fun v1 Y1 q1 => ?_) (fun E1 Y1 q1 => ?_)
  · exact q1.elim
  · (obtain ⟨rfl, rfl⟩ := q1; exact GX_out rfl ⟨by decide, by decide⟩ ⟨0, rfl, hcd, hq⟩)
theorem K_stateN2 {Γ : GTy} {Z : HS} {n : Nat} {P : HS → FT → Prop} {F A : FT} {g : GN} (h : CI n Z F g A) {f : Nat} (hf : f < g 16 0) (hw : ¬ F 117 f = -1) {F' : FT} {b : Int32} (hb : nI 2 = b) (hcd : F' 25 0 = nI 0) (hq : Nx P Z Z F') : Tt Γ M_X9_state [.ref 800000, .int (nI f)] Z (QVo P Z F' b) (QXo P Z F' [xIO]) := by
  refine Tt_of' rfl rfl rfl ?_
  show G Γ M_X9_state (rm M_X9_state) (Vt Γ M_X9_state (QVo P Z F' b) (QXo P Z F' [xIO])) (0, 0) 0 [some (.ref 800000), some (.int (nI f)), none] [] Z
  have h0 := h
  obtain ⟨hH, ⟨hPI, hPG, hZo⟩, ⟨hZh, hZd, hZw⟩, ⟨hZt, hZc, hZf⟩, ⟨hZr, hZs, hZl⟩, hZfr, hZbd⟩ := h0
  refine G_aload_n (pc := 0) dX9_state_0 rfl ?_
  refine G_iload_n (pc := 1) dX9_state_1 rfl ?_
  refine K_Vn1r (pc := 2) (k' := (1, 6)) mok_X9_frameAt lk_X9_164 (sh_k hH) rfl rfl rfl (aok0 rfl) dX9_state_2 (C_frameAtN hH hf hZh.1.1 hPI.1.2.2 (hZf f hf).2.1 (hZf f hf).1.1) rfl ?_
  refine G_astore_n (pc := 5) dX9_state_5 (by decide) ?_
  refine G_aload_n (pc := 6) dX9_state_6 rfl ?_
  refine K_Vn0r (pc := 7) (k' := (1, 6)) mok_X2_isOver lk_X9_215 (hZf f hf).1.1 rfl rfl rfl (aok0 rfl) dX9_state_7 (D_isOver h hf) rfl ?_
  refine G_if_eqB (pc := 10) (tgt := 15) dX9_state_10 (by decide) (fun c10 => ?_) (fun c10 => ?_)
  · exact absurd hw c10
  · skip
    refine G_iconst (pc := 13) (v := nI 2) dX9_state_13 (by first | rfl | decide) ?_
    refine G_iret (pc := 14) VZ.x dX9_state_14 rfl ⟨by decide, by decide⟩ ?_
    exact ⟨congrArg (fun z => some (Value.int z)) hb, hcd, hq⟩
theorem K_stateN1 {Γ : GTy} {Z : HS} {n : Nat} {P : HS → FT → Prop} {F A : FT} {g : GN} (h : CI n Z F g A) {f : Nat} (hf : f < g 16 0) (hw : F 117 f = -1) (hz : g 23 f = 0) {F' : FT} {b : Int32} (hb : nI 1 = b) (hcd : F' 25 0 = nI 0) (hq : Nx P Z Z F') : Tt Γ M_X9_state [.ref 800000, .int (nI f)] Z (QVo P Z F' b) (QXo P Z F' [xIO]) := by
  refine Tt_of' rfl rfl rfl ?_
  show G Γ M_X9_state (rm M_X9_state) (Vt Γ M_X9_state (QVo P Z F' b) (QXo P Z F' [xIO])) (0, 0) 0 [some (.ref 800000), some (.int (nI f)), none] [] Z
  have h0 := h
  obtain ⟨hH, ⟨hPI, hPG, hZo⟩, ⟨hZh, hZd, hZw⟩, ⟨hZt, hZc, hZf⟩, ⟨hZr, hZs, hZl⟩, hZfr, hZbd⟩ := h0
  refine G_aload_n (pc := 0) dX9_state_0 rfl ?_
  refine G_iload_n (pc := 1) dX9_state_1 rfl ?_
  refine K_Vn1r (pc := 2) (k' := (1, 6)) mok_X9_frameAt lk_X9_164 (sh_k hH) rfl rfl rfl (aok0 rfl) dX9_state_2 (C_frameAtN hH hf hZh.1.1 hPI.1.2.2 (hZf f hf).2.1 (hZf f hf).1.1) rfl ?_
  refine G_astore_n (pc := 5) dX9_state_5 (by decide) ?_
  refine G_aload_n (pc := 6) dX9_state_6 rfl ?_
  refine K_Vn0r (pc := 7) (k' := (1, 6)) mok_X2_isOver lk_X9_215 (hZf f hf).1.1 rfl rfl rfl (aok0 rfl) dX9_state_7 (D_isOver h hf) rfl ?_
  refine G_if_eqB (pc := 10) (tgt := 15) dX9_state_10 (by decide) (fun c10 => ?_) (fun c10 => ?_)
  · skip
    refine G_aload_n (pc := 15) dX9_state_15 rfl ?_
    refine K_Vn0r (pc := 16) (k' := (1, 6)) mok_X2_isWaiting lk_X9_168 (hZf f hf).1.1 rfl rfl rfl (aok0 rfl) dX9_state_16 (D_isWaitN h hf hz) rfl ?_
    refine G_if_eqB (pc := 19) (tgt := 26) dX9_state_19 (by decide) (fun c19 => ?_) (fun c19 => ?_)
    · exact absurd hw c19
    · skip
      refine G_iconst (pc := 22) (v := nI 1) dX9_state_22 (by first | rfl | decide) ?_
      refine G_goto (pc := 23) (tgt := 27) dX9_state_23 (by decide) ?_
      refine G_iret (pc := 27) VZ.x dX9_state_27 rfl ⟨by decide, by decide⟩ ?_
      exact ⟨congrArg (fun z => some (Value.int z)) hb, hcd, hq⟩
  · exact absurd hw c10
theorem K_stateN0 {Γ : GTy} {Z : HS} {n : Nat} {P : HS → FT → Prop} {F A : FT} {g : GN} (h : CI n Z F g A) {f : Nat} (hf : f < g 16 0) (hw : F 117 f = -1) (hz : g 23 f ≠ 0) {F' : FT} {b : Int32} (hb : nI 0 = b) (hcd : F' 25 0 = nI 0) (hq : Nx P Z Z F') : Tt Γ M_X9_state [.ref 800000, .int (nI f)] Z (QVo P Z F' b) (QXo P Z F' [xIO]) := by
  refine Tt_of' rfl rfl rfl ?_
  show G Γ M_X9_state (rm M_X9_state) (Vt Γ M_X9_state (QVo P Z F' b) (QXo P Z F' [xIO])) (0, 0) 0 [some (.ref 800000), some (.int (nI f)), none] [] Z
  have h0 := h
  obtain ⟨hH, ⟨hPI, hPG, hZo⟩, ⟨hZh, hZd, hZw⟩, ⟨hZt, hZc, hZf⟩, ⟨hZr, hZs, hZl⟩, hZfr, hZbd⟩ := h0
  refine G_aload_n (pc := 0) dX9_state_0 rfl ?_
  refine G_iload_n (pc := 1) dX9_state_1 rfl ?_
  refine K_Vn1r (pc := 2) (k' := (1, 6)) mok_X9_frameAt lk_X9_164 (sh_k hH) rfl rfl rfl (aok0 rfl) dX9_state_2 (C_frameAtN hH hf hZh.1.1 hPI.1.2.2 (hZf f hf).2.1 (hZf f hf).1.1) rfl ?_
  refine G_astore_n (pc := 5) dX9_state_5 (by decide) ?_
  refine G_aload_n (pc := 6) dX9_state_6 rfl ?_
  refine K_Vn0r (pc := 7) (k' := (1, 6)) mok_X2_isOver lk_X9_215 (hZf f hf).1.1 rfl rfl rfl (aok0 rfl) dX9_state_7 (D_isOver h hf) rfl ?_
  refine G_if_eqB (pc := 10) (tgt := 15) dX9_state_10 (by decide) (fun c10 => ?_) (fun c10 => ?_)
  · skip
    refine G_aload_n (pc := 15) dX9_state_15 rfl ?_
    refine K_Vn0r (pc := 16) (k' := (1, 6)) mok_X2_isWaiting lk_X9_168 (hZf f hf).1.1 rfl rfl rfl (aok0 rfl) dX9_state_16 (D_isWaitS h hf hz) rfl ?_
    refine G_if_eqN (pc := 19) (tgt := 26) (by omega) dX9_state_19 (by decide) (fun _ => ?_) (fun h => absurd h (by decide))
    refine G_iconst (pc := 26) (v := nI 0) dX9_state_26 (by first | rfl | decide) ?_
    refine G_iret (pc := 27) VZ.x dX9_state_27 rfl ⟨by decide, by decide⟩ ?_
    exact ⟨congrArg (fun z => some (Value.int z)) hb, hcd, hq⟩
  · exact absurd hw c10
theorem K_stateX {Γ : GTy} {Z : HS} {n : Nat} {P : HS → FT → Prop} {F A : FT} {g : GN} (h : CI n Z F g A) {x : Int32} (hx : ¬ (nI 0 ≤ x ∧ x ≤ nI (g 16 0) - nI 1)) {F' : FT} {b : Int32} (hcd : F' 25 0 = nI 1) (hq : Nx P Z Z F') : Tt Γ M_X9_state [.ref 800000, .int x] Z (QVo P Z F' b) (QXo P Z F' [xIO]) := by
  refine Tt_of' rfl rfl rfl ?_
  show G Γ M_X9_state (rm M_X9_state) (Vt Γ M_X9_state (QVo P Z F' b) (QXo P Z F' [xIO])) (0, 0) 0 [some (.ref 800000), some (.int x), none] [] Z
  have h0 := h
  obtain ⟨hH, ⟨hPI, hPG, hZo⟩, ⟨hZh, hZd, hZw⟩, ⟨hZt, hZc, hZf⟩, ⟨hZr, hZs, hZl⟩, hZfr, hZbd⟩ := h0
  refine G_aload_n (pc := 0) dX9_state_0 rfl ?_
  refine G_iload_n (pc := 1) dX9_state_1 rfl ?_
  refine K_V1 (pc := 2) (k' := (1, 6)) mok_X9_frameAt lk_X9_164 (sh_k hH) rfl rfl rfl (aok0 rfl) dX9_state_2 (C_frameAtX hH hZh.1.1 hPI.1.2.2 hx) rfl (fun v1 Y1 q1 => ?_) (fun E1 Y1 q1 => ?_)
  · exact q1.elim
  · (obtain ⟨rfl, rfl⟩ := q1; exact GX_out rfl ⟨by decide, by decide⟩ ⟨0, rfl, hcd, hq⟩)
theorem K_cellN {Γ : GTy} {Z : HS} {n : Nat} {P : HS → FT → Prop} {F A : FT} {g : GN} (h : CI n Z F g A) {f : Nat} (hf : f < g 16 0) {t : Nat} (ht : t < 8) {F' : FT} {b : Int32} (hb : F 118 (8 * f + t) = b) (hcd : F' 25 0 = nI 0) (hq : Nx P Z Z F') : Tt Γ M_X9_cell [.ref 800000, .int (nI f), .int (nI t)] Z (QVo P Z F' b) (QXo P Z F' [xIO]) := by
  refine Tt_of' rfl rfl rfl ?_
  show G Γ M_X9_cell (rm M_X9_cell) (Vt Γ M_X9_cell (QVo P Z F' b) (QXo P Z F' [xIO])) (0, 0) 0 [some (.ref 800000), some (.int (nI f)), some (.int (nI t)), none] [] Z
  have h0 := h
  obtain ⟨hH, ⟨hPI, hPG, hZo⟩, ⟨hZh, hZd, hZw⟩, ⟨hZt, hZc, hZf⟩, ⟨hZr, hZs, hZl⟩, hZfr, hZbd⟩ := h0
  refine G_aload_n (pc := 0) dX9_cell_0 rfl ?_
  refine G_iload_n (pc := 1) dX9_cell_1 rfl ?_
  refine K_Vn1r (pc := 2) (k' := (1, 6)) mok_X9_frameAt lk_X9_164 (sh_k hH) rfl rfl rfl (aok0 rfl) dX9_cell_2 (C_frameAtN hH hf hZh.1.1 hPI.1.2.2 (hZf f hf).2.1 (hZf f hf).1.1) rfl ?_
  refine G_astore_n (pc := 5) dX9_cell_5 (by decide) ?_
  refine G_iload_n (pc := 6) dX9_cell_6 rfl ?_
  refine G_if_ltN (pc := 7) (tgt := 19) (by omega) dX9_cell_7 (by decide) (fun c7 => ?_) (fun c7 => ?_)
  · omega
  · skip
    refine G_iload_n (pc := 10) dX9_cell_10 rfl ?_
    refine G_aload_n (pc := 11) dX9_cell_11 rfl ?_
    refine G_getS (pc := 12) fl_X9_195 (hZf f hf).1.1 rfl (hZf f hf).1.2.1 dX9_cell_12 ?_
    refine G_alen (pc := 15) (v := nI 8) (hZf f hf).1.2.2.1 (by decide) (congrArg nI (hZf f hf).1.2.2.2) dX9_cell_15 ?_
    refine G_icmp_ltN (pc := 16) (tgt := 30) (by omega) (by omega) dX9_cell_16 (by decide) (fun c16 => ?_) (fun c16 => ?_)
    · skip
      refine G_aload_n (pc := 30) dX9_cell_30 rfl ?_
      refine G_getS (pc := 31) fl_X9_195 (hZf f hf).1.1 rfl (hZf f hf).1.2.1 dX9_cell_31 ?_
      refine G_iload_n (pc := 34) dX9_cell_34 rfl ?_
      refine G_ialdv (pc := 35) (j := t) (v := F 118 (8 * f + t)) ((hZf f hf).2.2.2.1.2 t ht) (hZf f hf).1.2.2.1 rfl (Nat.lt_of_lt_of_eq ht (hZf f hf).1.2.2.2.symm) (by omega) dX9_cell_35 ?_
      refine G_iret (pc := 36) VZ.x dX9_cell_36 rfl ⟨by decide, by decide⟩ ?_
      exact ⟨congrArg (fun z => some (Value.int z)) hb, hcd, hq⟩
    · omega
theorem K_cellX {Γ : GTy} {Z : HS} {n : Nat} {P : HS → FT → Prop} {F A : FT} {g : GN} (h : CI n Z F g A) {x y : Int32} (hx : ¬ (nI 0 ≤ x ∧ x ≤ nI (g 16 0) - nI 1)) {F' : FT} {b : Int32} (hcd : F' 25 0 = nI 1) (hq : Nx P Z Z F') : Tt Γ M_X9_cell [.ref 800000, .int x, .int y] Z (QVo P Z F' b) (QXo P Z F' [xIO]) := by
  refine Tt_of' rfl rfl rfl ?_
  show G Γ M_X9_cell (rm M_X9_cell) (Vt Γ M_X9_cell (QVo P Z F' b) (QXo P Z F' [xIO])) (0, 0) 0 [some (.ref 800000), some (.int x), some (.int y), none] [] Z
  have h0 := h
  obtain ⟨hH, ⟨hPI, hPG, hZo⟩, ⟨hZh, hZd, hZw⟩, ⟨hZt, hZc, hZf⟩, ⟨hZr, hZs, hZl⟩, hZfr, hZbd⟩ := h0
  refine G_aload_n (pc := 0) dX9_cell_0 rfl ?_
  refine G_iload_n (pc := 1) dX9_cell_1 rfl ?_
  refine K_V1 (pc := 2) (k' := (1, 6)) mok_X9_frameAt lk_X9_164 (sh_k hH) rfl rfl rfl (aok0 rfl) dX9_cell_2 (C_frameAtX hH hZh.1.1 hPI.1.2.2 hx) rfl (fun v1 Y1 q1 => ?_) (fun E1 Y1 q1 => ?_)
  · exact q1.elim
  · (obtain ⟨rfl, rfl⟩ := q1; exact GX_out rfl ⟨by decide, by decide⟩ ⟨0, rfl, hcd, hq⟩)
theorem K_cellY {Γ : GTy} {Z : HS} {n : Nat} {P : HS → FT → Prop} {F A : FT} {g : GN} (h : CI n Z F g A) {f : Nat} (hf : f < g 16 0) {y : Int32} (hy : ¬ (nI 0 ≤ y ∧ y ≤ nI 7)) {F' : FT} {b : Int32} (hcd : F' 25 0 = nI 1) (hq : Nx P Z Z F') : Tt Γ M_X9_cell [.ref 800000, .int (nI f), .int y] Z (QVo P Z F' b) (QXo P Z F' [xIO]) := by
  refine Tt_of' rfl rfl rfl ?_
  show G Γ M_X9_cell (rm M_X9_cell) (Vt Γ M_X9_cell (QVo P Z F' b) (QXo P Z F' [xIO])) (0, 0) 0 [some (.ref 800000), some (.int (nI f)), some (.int y), none] [] Z
  have h0 := h
  obtain ⟨hH, ⟨hPI, hPG, hZo⟩, ⟨hZh, hZd, hZw⟩, ⟨hZt, hZc, hZf⟩, ⟨hZr, hZs, hZl⟩, hZfr, hZbd⟩ := h0
  refine G_aload_n (pc := 0) dX9_cell_0 rfl ?_
  refine G_iload_n (pc := 1) dX9_cell_1 rfl ?_
  refine K_Vn1r (pc := 2) (k' := (1, 6)) mok_X9_frameAt lk_X9_164 (sh_k hH) rfl rfl rfl (aok0 rfl) dX9_cell_2 (C_frameAtN hH hf hZh.1.1 hPI.1.2.2 (hZf f hf).2.1 (hZf f hf).1.1) rfl ?_
  refine G_astore_n (pc := 5) dX9_cell_5 (by decide) ?_
  refine G_iload_n (pc := 6) dX9_cell_6 rfl ?_
  refine G_if_lt (pc := 7) (tgt := 19) dX9_cell_7 (by decide) (fun c7 => ?_) (fun c7 => ?_)
  · skip
    refine G_throwW (pc := 19)  tw_X9_270 rfl dX9_cell_19 dX9_cell_22 dX9_cell_23 dX9_cell_26 dX9_cell_29 ⟨by decide, Nat.le_of_ble_eq_true rfl, by decide, by decide⟩ ⟨by decide, by decide⟩ ?_
    exact ⟨0, rfl, hcd, hq⟩
  · skip
    refine G_iload_n (pc := 10) dX9_cell_10 rfl ?_
    refine G_aload_n (pc := 11) dX9_cell_11 rfl ?_
    refine G_getS (pc := 12) fl_X9_195 (hZf f hf).1.1 rfl (hZf f hf).1.2.1 dX9_cell_12 ?_
    refine G_alen (pc := 15) (v := nI 8) (hZf f hf).1.2.2.1 (by decide) (congrArg nI (hZf f hf).1.2.2.2) dX9_cell_15 ?_
    refine G_icmp_lt (pc := 16) (tgt := 30) dX9_cell_16 (by decide) (fun c16 => ?_) (fun c16 => ?_)
    · exact absurd (in_of (by decide) c7 (Int32.not_le.mpr c16)) hy
    · skip
      refine G_throwW (pc := 19)  tw_X9_270 rfl dX9_cell_19 dX9_cell_22 dX9_cell_23 dX9_cell_26 dX9_cell_29 ⟨by decide, Nat.le_of_ble_eq_true rfl, by decide, by decide⟩ ⟨by decide, by decide⟩ ?_
      exact ⟨0, rfl, hcd, hq⟩
theorem K_minute {Γ : GTy} {Z : HS} {n : Nat} {F A : FT} {g : GN} (h : CI n Z F g A) : Tn Γ M_X9_minute [.ref 800000] Z (rt (some (.int (F 0 0))) Z) := by
  refine Tn_of' rfl rfl rfl ?_
  show G Γ M_X9_minute (rm M_X9_minute) (Vn Γ M_X9_minute (rt (some (.int (F 0 0))) Z)) (0, 0) 0 [some (.ref 800000)] [] Z
  have h0 := h
  obtain ⟨hH, ⟨hPI, hPG, hZo⟩, ⟨hZh, hZd, hZw⟩, ⟨hZt, hZc, hZf⟩, ⟨hZr, hZs, hZl⟩, hZfr, hZbd⟩ := h0
  refine G_aload_n (pc := 0) dX9_minute_0 rfl ?_
  refine G_getIv (pc := 1) (v := F 0 0) (hZh.2.2.2.trans hPI.1.1.1.symm) fl_X9_102 (sh_k hH) rfl dX9_minute_1 ?_
  refine G_iret (pc := 4) VZ.n dX9_minute_4 rfl ⟨by decide, by decide⟩ ?_
  exact ⟨rfl, rfl⟩
theorem K_frames {Γ : GTy} {Z : HS} {n : Nat} {F A : FT} {g : GN} (h : CI n Z F g A) : Tn Γ M_X9_frames [.ref 800000] Z (rt (some (.int (F 10 0))) Z) := by
  refine Tn_of' rfl rfl rfl ?_
  show G Γ M_X9_frames (rm M_X9_frames) (Vn Γ M_X9_frames (rt (some (.int (F 10 0))) Z)) (0, 0) 0 [some (.ref 800000)] [] Z
  have h0 := h
  obtain ⟨hH, ⟨hPI, hPG, hZo⟩, ⟨hZh, hZd, hZw⟩, ⟨hZt, hZc, hZf⟩, ⟨hZr, hZs, hZl⟩, hZfr, hZbd⟩ := h0
  refine G_aload_n (pc := 0) dX9_frames_0 rfl ?_
  refine G_getIv (pc := 1) (v := F 10 0) (hZh.1.1.trans hPI.1.2.1.symm) fl_X9_145 (sh_k hH) rfl dX9_frames_1 ?_
  refine G_iret (pc := 4) VZ.n dX9_frames_4 rfl ⟨by decide, by decide⟩ ?_
  exact ⟨rfl, rfl⟩
