-- ===== the class: a frame: its fields and cells as D slot index: 114 turn, 116 free, 115 points, 117 won, 118 cells =====
section GV
variable {Γ : GTy} {μ : MTy} {R : Room} {W : WTy} {k : Nat × Nat} {pc : Nat} {L : List (Option Value)} {st : List Value} {Y : HS}
theorem G_getIv {idx c i a : Nat} {v : Int32} (hv : xI Y c i a = v) (hF : FL (mN μ).cls idx c i) (hk : xK Y a = c) (hr : rf c i = false) (hd : decode (mC μ) pc = .ok (.getfield idx, 3)) (kk : G Γ μ R W k (pc + 3) L (.int v :: st) Y) : G Γ μ R W k pc L (.ref a :: st) Y :=
  G_getI hF hk hr hd (by rw [hv]; exact kk)
theorem G_ialdv {a j : Nat} {i v : Int32} (hv : xA Y a j = v) (hk : xK Y a = 10) (hi : i = nI j) (hj : j < xn Y a) (h2 : j < 2 ^ 31) (hd : decode (mC μ) pc = .ok (.iaload, 1)) (kk : G Γ μ R W k (pc + 1) L (.int v :: st) Y) : G Γ μ R W k pc L (.int i :: .ref a :: st) Y :=
  G_iald hk hi hj h2 hd (by rw [hv]; exact kk)
theorem G_baldv {a j : Nat} {i v : Int32} (hv : xA Y a j = v) (hk : xK Y a = 11) (hi : i = nI j) (hj : j < xn Y a) (h2 : j < 2 ^ 31) (hd : decode (mC μ) pc = .ok (.baload, 1)) (kk : G Γ μ R W k (pc + 1) L (.int v :: st) Y) : G Γ μ R W k pc L (.int i :: .ref a :: st) Y :=
  G_bald hk hi hj h2 hd (by rw [hv]; exact kk)
end GV
def fs : Nat → Nat := fun k => match k with
  | 6 => 114
  | 7 => 116
  | 8 => 115
  | 9 => 115
  | _ => 117
def fj (f : Nat) : Nat → Nat := fun k => match k with
  | 8 => 2 * f
  | 9 => 2 * f + 1
  | _ => f
def wF (f p e : Nat) (Y : HS) (D : FT) : HS := (Y.1, (fun c' k a => if c' = 2 ∧ a = p ∧ 6 ≤ k ∧ k ≤ 10 then D (fs k) (fj f k) else xI Y c' k a, xR Y), (xn Y, fun a i => if a = e ∧ i < 8 then D 118 (8 * f + i) else xA Y a i, xJ Y, xP Y))
/-- frame p stands, its cells e -/
def FS (p e : Nat) (Y : HS) : Prop := xK Y p = 2 ∧ xR Y 2 4 p = some e ∧ xK Y e = 10 ∧ xn Y e = 8
theorem wF_I {f p e : Nat} {Y : HS} {D : FT} {k : Nat} (h : 6 ≤ k ∧ k ≤ 10) : xI (wF f p e Y D) 2 k p = D (fs k) (fj f k) := if_pos ⟨rfl, rfl, h⟩
theorem wF_Ic {f p e : Nat} {Y : HS} {D : FT} {c k a : Nat} (h : c ≠ 2 ∨ a ≠ p ∨ k < 6) : xI (wF f p e Y D) c k a = xI Y c k a := if_neg (fun g => by omega)
theorem wF_A {f p e : Nat} {Y : HS} {D : FT} {j : Nat} (h : j < 8) : xA (wF f p e Y D) e j = D 118 (8 * f + j) := if_pos ⟨rfl, h⟩
theorem wF_Ax {f p e : Nat} {Y : HS} {D : FT} {a j : Nat} (h : a ≠ e) : xA (wF f p e Y D) a j = xA Y a j := if_neg (fun g => h g.1)
theorem fs_ne {k : Nat} : fs k ≠ 118 := by unfold fs; split <;> decide
theorem wF_congr {f p e : Nat} {Y : HS} {D D' : FT} (h1 : ∀ k, 6 ≤ k → k ≤ 10 → D (fs k) (fj f k) = D' (fs k) (fj f k)) (h2 : ∀ j, j < 8 → D 118 (8 * f + j) = D' 118 (8 * f + j)) : wF f p e Y D = wF f p e Y D' := by
  have e1 : (fun c' k a => if c' = 2 ∧ a = p ∧ 6 ≤ k ∧ k ≤ 10 then D (fs k) (fj f k) else xI Y c' k a) = (fun c' k a => if c' = 2 ∧ a = p ∧ 6 ≤ k ∧ k ≤ 10 then D' (fs k) (fj f k) else xI Y c' k a) := by
    funext c' k a
    split
    · next g => exact h1 k g.2.2.1 g.2.2.2
    · rfl
  have e2 : (fun a i => if a = e ∧ i < 8 then D 118 (8 * f + i) else xA Y a i) = (fun a i => if a = e ∧ i < 8 then D' 118 (8 * f + i) else xA Y a i) := by
    funext a i
    split
    · next g => exact h2 i g.2
    · rfl
  unfold wF
  rw [e1, e2]
theorem wF_sI {f p e : Nat} {Y : HS} {D : FT} {k : Nat} {v : Int32} (h : 6 ≤ k ∧ k ≤ 10) : sI (wF f p e Y D) 2 k p v = wF f p e Y (u2 D (fs k) (fj f k) v) := by
  have h1 : u3 (xI (wF f p e Y D)) 2 k p v = (fun c' k' a' => if c' = 2 ∧ a' = p ∧ 6 ≤ k' ∧ k' ≤ 10 then u2 D (fs k) (fj f k) v (fs k') (fj f k') else xI Y c' k' a') := by
    funext c' k' a'
    show (if c' = 2 ∧ k' = k ∧ a' = p then v else if c' = 2 ∧ a' = p ∧ 6 ≤ k' ∧ k' ≤ 10 then D (fs k') (fj f k') else xI Y c' k' a') = _
    by_cases q : c' = 2 ∧ a' = p ∧ 6 ≤ k' ∧ k' ≤ 10
    · obtain ⟨rfl, rfl, q⟩ := q
      have k1 : k = 6 ∨ k = 7 ∨ k = 8 ∨ k = 9 ∨ k = 10 := by omega
      have k2 : k' = 6 ∨ k' = 7 ∨ k' = 8 ∨ k' = 9 ∨ k' = 10 := by omega
      rcases k1 with rfl | rfl | rfl | rfl | rfl <;> rcases k2 with rfl | rfl | rfl | rfl | rfl <;> simp [u2, fs, fj]
    · rw [if_neg q, if_neg q, if_neg (fun g => q ⟨g.1, g.2.2, by omega⟩)]
  have h2 : (fun a i => if a = e ∧ i < 8 then D 118 (8 * f + i) else xA Y a i) = (fun a i => if a = e ∧ i < 8 then u2 D (fs k) (fj f k) v 118 (8 * f + i) else xA Y a i) := by
    funext a i
    split
    · exact (if_neg (fun g => fs_ne g.1.symm)).symm
    · rfl
  show (Y.1, (u3 (xI (wF f p e Y D)) 2 k p v, xR Y), (xn Y, (fun a i => if a = e ∧ i < 8 then D 118 (8 * f + i) else xA Y a i), xJ Y, xP Y)) = _
  rw [h1, h2]
  rfl
theorem wF_sA {f p e : Nat} {Y : HS} {D : FT} {j : Nat} {v : Int32} (h : j < 8) : sA (wF f p e Y D) e j v = wF f p e Y (u2 D 118 (8 * f + j) v) := by
  have h1 : (fun c' k' a' => if c' = 2 ∧ a' = p ∧ 6 ≤ k' ∧ k' ≤ 10 then D (fs k') (fj f k') else xI Y c' k' a') = (fun c' k' a' => if c' = 2 ∧ a' = p ∧ 6 ≤ k' ∧ k' ≤ 10 then u2 D 118 (8 * f + j) v (fs k') (fj f k') else xI Y c' k' a') := by
    funext c' k' a'
    split
    · exact (if_neg (fun g => fs_ne g.1)).symm
    · rfl
  have h2 : u2 (xA (wF f p e Y D)) e j v = (fun a i => if a = e ∧ i < 8 then u2 D 118 (8 * f + j) v 118 (8 * f + i) else xA Y a i) := by
    funext a i
    show (if a = e ∧ i = j then v else if a = e ∧ i < 8 then D 118 (8 * f + i) else xA Y a i) = _
    simp only [u2]
    by_cases q : a = e ∧ i < 8
    · rw [if_pos q, if_pos q]
      by_cases q2 : i = j
      · rw [if_pos ⟨q.1, q2⟩, if_pos ⟨trivial, by omega⟩]
      · rw [if_neg (fun g => q2 g.2), if_neg (fun g => q2 (by omega))]
    · rw [if_neg q, if_neg q, if_neg (fun g => q ⟨g.1, by omega⟩)]
  show (Y.1, ((fun c' k' a' => if c' = 2 ∧ a' = p ∧ 6 ≤ k' ∧ k' ≤ 10 then D (fs k') (fj f k') else xI Y c' k' a'), xR Y), (xn Y, u2 (xA (wF f p e Y D)) e j v, xJ Y, xP Y)) = _
  rw [h1, h2]
  rfl
section GP
variable {Γ : GTy} {μ : MTy} {R : Room} {W : WTy} {k : Nat × Nat} {pc : Nat} {L : List (Option Value)} {st : List Value} {Y : HS} {D : FT} {f p e : Nat}
theorem F_getv {idx kk : Nat} {v : Int32} (hv : D (fs kk) (fj f kk) = v) (hP : FS p e Y) (hF : FL (mN μ).cls idx 2 kk) (h4 : 6 ≤ kk ∧ kk ≤ 10) (hd : decode (mC μ) pc = .ok (.getfield idx, 3)) (kt : G Γ μ R W k (pc + 3) L (.int v :: st) (wF f p e Y D)) : G Γ μ R W k pc L (.ref p :: st) (wF f p e Y D) := by
  have hr : rf 2 kk = false := by
    have : kk = 6 ∨ kk = 7 ∨ kk = 8 ∨ kk = 9 ∨ kk = 10 := by omega
    rcases this with rfl | rfl | rfl | rfl | rfl <;> rfl
  refine G_getI hF hP.1 hr hd ?_
  rw [wF_I h4, hv]
  exact kt
theorem F_getc {idx kk : Nat} {v : Int32} (hv : xI Y 2 kk p = v) (hP : FS p e Y) (hF : FL (mN μ).cls idx 2 kk) (h4 : kk < 4) (hd : decode (mC μ) pc = .ok (.getfield idx, 3)) (kt : G Γ μ R W k (pc + 3) L (.int v :: st) (wF f p e Y D)) : G Γ μ R W k pc L (.ref p :: st) (wF f p e Y D) := by
  have hr : rf 2 kk = false := by
    have : kk = 0 ∨ kk = 1 ∨ kk = 2 ∨ kk = 3 := by omega
    rcases this with rfl | rfl | rfl | rfl <;> rfl
  refine G_getI hF hP.1 hr hd ?_
  rw [wF_Ic (by omega), hv]
  exact kt
theorem F_put {idx kk : Nat} {v : Int32} (hP : FS p e Y) (hF : FL (mN μ).cls idx 2 kk) (hW : FW 2 kk) (h4 : 8 ≤ kk ∧ kk ≤ 10) (hd : decode (mC μ) pc = .ok (.putfield idx, 3)) (kt : G Γ μ R W k (pc + 3) L st (wF f p e Y (u2 D (fs kk) (fj f kk) v))) : G Γ μ R W k pc L (.int v :: .ref p :: st) (wF f p e Y D) := by
  have ht : ft 2 kk = .int := by
    have : kk = 8 ∨ kk = 9 ∨ kk = 10 := by omega
    rcases this with rfl | rfl | rfl <;> rfl
  refine G_putI hF hW hP.1 ht hd ?_
  rw [wF_sI (by omega)]
  exact kt
theorem F_putZ {idx kk : Nat} {v : Int32} (hP : FS p e Y) (hF : FL (mN μ).cls idx 2 kk) (hW : FW 2 kk) (h4 : 6 ≤ kk ∧ kk ≤ 7) (hv : v = 0 ∨ v = 1) (hd : decode (mC μ) pc = .ok (.putfield idx, 3)) (kt : G Γ μ R W k (pc + 3) L st (wF f p e Y (u2 D (fs kk) (fj f kk) v))) : G Γ μ R W k pc L (.int v :: .ref p :: st) (wF f p e Y D) := by
  have ht : ft 2 kk = .boolean := by
    have : kk = 6 ∨ kk = 7 := by omega
    rcases this with rfl | rfl <;> rfl
  refine G_putZ hF hW hP.1 ht hv hd ?_
  rw [wF_sI (by omega)]
  exact kt
theorem F_arr {idx : Nat} (hP : FS p e Y) (hF : FL (mN μ).cls idx 2 4) (hd : decode (mC μ) pc = .ok (.getfield idx, 3)) (kt : G Γ μ R W k (pc + 3) L (.ref e :: st) (wF f p e Y D)) : G Γ μ R W k pc L (.ref p :: st) (wF f p e Y D) :=
  G_getS hF hP.1 rfl hP.2.1 hd kt
theorem F_ldv {j : Nat} {i v : Int32} (hv : D 118 (8 * f + j) = v) (hP : FS p e Y) (hi : i = nI j) (hj : j < 8) (hd : decode (mC μ) pc = .ok (.iaload, 1)) (kt : G Γ μ R W k (pc + 1) L (.int v :: st) (wF f p e Y D)) : G Γ μ R W k pc L (.int i :: .ref e :: st) (wF f p e Y D) :=
  G_ialdv ((wF_A hj).trans hv) hP.2.2.1 hi (Nat.lt_of_lt_of_eq hj hP.2.2.2.symm) (by omega) hd kt
theorem F_st {j : Nat} {i v : Int32} (hP : FS p e Y) (hi : i = nI j) (hj : j < 8) (hd : decode (mC μ) pc = .ok (.iastore, 1)) (kt : G Γ μ R W k (pc + 1) L st (wF f p e Y (u2 D 118 (8 * f + j) v))) : G Γ μ R W k pc L (.int v :: .int i :: .ref e :: st) (wF f p e Y D) := by
  refine G_iast (j := j) hP.2.2.1 hi (Nat.lt_of_lt_of_eq hj hP.2.2.2.symm) (by omega) hd ?_
  rw [wF_sA hj]
  exact kt
theorem F_len (hP : FS p e Y) (hd : decode (mC μ) pc = .ok (.arraylength, 1)) (kt : G Γ μ R W k (pc + 1) L (.int (nI 8) :: st) (wF f p e Y D)) : G Γ μ R W k pc L (.ref e :: st) (wF f p e Y D) :=
  G_alen hP.2.2.1 (by decide) (congrArg nI hP.2.2.2) hd kt
end GP
-- ===== what a frame tells =====
theorem mIn_E {D E : FT} {f : Nat} {x : Int32} (hE : ∀ j, j < 8 → D 118 (8 * f + j) = E 119 j) : lastW (fun k => D 118 (8 * f + k) = x) 8 = mIn E x := lastW_congr (fun j hj => by rw [hE j hj])
theorem allB_iff {p : Nat → Prop} [DecidablePred p] : ∀ n, allB p n = true ↔ ∀ i, i < n → p i
  | 0 => ⟨fun _ i h => absurd h (Nat.not_lt_zero i), fun _ => rfl⟩
  | n + 1 => by
    show (allB p n && decide (p n)) = true ↔ _
    rw [Bool.and_eq_true, allB_iff n, decide_eq_true_eq]
    constructor
    · rintro ⟨h1, h2⟩ i hi
      by_cases e : i = n
      · exact e ▸ h2
      · exact h1 i (by omega)
    · exact fun h => ⟨fun i hi => h i (by omega), h n (Nat.lt_succ_self n)⟩
theorem firstN_is {p : Nat → Prop} [DecidablePred p] {n j : Nat} (hj : j < n) (h : p j) (hn : ∀ i, i < j → ¬ p i) : firstN p n 0 = j := by
  obtain ⟨y, e1, -, e2, e3, -⟩ := firstN_spec p n 0 j (Nat.zero_le j) (by omega) h
  rw [e1]
  rcases Nat.lt_or_ge y j with g | g
  · exact absurd e3 (hn y g)
  · omega
theorem C_player {Γ : GTy} {Y : HS} {f p e : Nat} (hP : FS p e Y) (D : FT) (ha : xI Y 2 1 p = D 111 (2 * f)) (hb : xI Y 2 2 p = D 111 (2 * f + 1)) {u : Nat} (hu : D 114 f = nI u) (u1 : u ≤ 1) : Tn Γ M_X2_player [.ref p] (wF f p e Y D) (rt (some (.int (D 111 (2 * f + u)))) (wF f p e Y D)) := by
  refine Tn_of' rfl rfl rfl ?_
  show G Γ M_X2_player (rm M_X2_player) (Vn Γ M_X2_player (rt (some (.int (D 111 (2 * f + u)))) (wF f p e Y D))) (0, 0) 0 [some (.ref p)] [] (wF f p e Y D)
  refine G_aload_n (pc := 0) dX2_player_0 rfl ?_
  refine F_getv (pc := 1) (kk := 6) (v := nI u) hu hP fl_X2_40 (by decide) dX2_player_1 ?_
  refine G_if_eqN (pc := 4) (tgt := 14) (by omega) dX2_player_4 (by decide) (fun c4 => ?_) (fun c4 => ?_)
  · skip
    refine G_aload_n (pc := 14) dX2_player_14 rfl ?_
    refine F_getc (pc := 15) (kk := 1) (v := D 111 (2 * f)) ha hP fl_X2_30 (by decide) dX2_player_15 ?_
    refine G_iret (pc := 18) VZ.n dX2_player_18 rfl ⟨by decide, by decide⟩ ?_
    first
      | (have e9 : u = 0 := c4; subst e9; exact ⟨rfl, rfl⟩)
      | (have e9 : u = 1 := by omega
         subst e9; exact ⟨rfl, rfl⟩)
  · skip
    refine G_aload_n (pc := 7) dX2_player_7 rfl ?_
    refine F_getc (pc := 8) (kk := 2) (v := D 111 (2 * f + 1)) hb hP fl_X2_33 (by decide) dX2_player_8 ?_
    refine G_goto (pc := 11) (tgt := 18) dX2_player_11 (by decide) ?_
    refine G_iret (pc := 18) VZ.n dX2_player_18 rfl ⟨by decide, by decide⟩ ?_
    first
      | (have e9 : u = 0 := c4; subst e9; exact ⟨rfl, rfl⟩)
      | (have e9 : u = 1 := by omega
         subst e9; exact ⟨rfl, rfl⟩)
theorem C_isOverF {Γ : GTy} {Y : HS} {f p e : Nat} (hP : FS p e Y) (D : FT)  : Tn Γ M_X2_isOver [.ref p] (wF f p e Y D) (rt (some (.int (b2 (¬ D 117 f = -1)))) (wF f p e Y D)) := by
  refine Tn_of' rfl rfl rfl ?_
  show G Γ M_X2_isOver (rm M_X2_isOver) (Vn Γ M_X2_isOver (rt (some (.int (b2 (¬ D 117 f = -1)))) (wF f p e Y D))) (0, 0) 0 [some (.ref p)] [] (wF f p e Y D)
  refine G_aload_n (pc := 0) dX2_isOver_0 rfl ?_
  refine F_getv (pc := 1) (kk := 10) (v := D 117 f) rfl hP fl_X2_23 (by decide) dX2_isOver_1 ?_
  refine G_iconst (pc := 4) (v := -1) dX2_isOver_4 (by first | rfl | decide) ?_
  refine G_icmp_eq (pc := 5) (tgt := 12) dX2_isOver_5 (by decide) (fun c5 => ?_) (fun c5 => ?_)
  · skip
    refine G_iconst (pc := 12) (v := nI 0) dX2_isOver_12 (by first | rfl | decide) ?_
    refine G_zret (pc := 13) VZ.n dX2_isOver_13 rfl (Or.inl rfl) ⟨by decide, by decide⟩ ?_
    first
      | exact ⟨congrArg (fun z => some (Value.int z)) (b2_t c5).symm, rfl⟩
      | exact ⟨congrArg (fun z => some (Value.int z)) (b2_f (fun g => g c5)).symm, rfl⟩
  · skip
    refine G_iconst (pc := 8) (v := nI 1) dX2_isOver_8 (by first | rfl | decide) ?_
    refine G_goto (pc := 9) (tgt := 13) dX2_isOver_9 (by decide) ?_
    refine G_zret (pc := 13) VZ.n dX2_isOver_13 rfl (Or.inr rfl) ⟨by decide, by decide⟩ ?_
    first
      | exact ⟨congrArg (fun z => some (Value.int z)) (b2_t c5).symm, rfl⟩
      | exact ⟨congrArg (fun z => some (Value.int z)) (b2_f (fun g => g c5)).symm, rfl⟩
theorem C_isWaitN {Γ : GTy} {Y : HS} {f p e : Nat} (hP : FS p e Y) (D : FT) (hT : xR Y 2 5 p = none) : Tn Γ M_X2_isWaiting [.ref p] (wF f p e Y D) (rt (some (.int (b2 (D 117 f = -1)))) (wF f p e Y D)) := by
  refine Tn_of' rfl rfl rfl ?_
  show G Γ M_X2_isWaiting (rm M_X2_isWaiting) (Vn Γ M_X2_isWaiting (rt (some (.int (b2 (D 117 f = -1)))) (wF f p e Y D))) (0, 0) 0 [some (.ref p)] [] (wF f p e Y D)
  refine G_aload_n (pc := 0) dX2_isWaiting_0 rfl ?_
  refine G_getN (pc := 1) fl_X2_43 hP.1 rfl hT dX2_isWaiting_1 ?_
  refine G_ifnonnull_n (pc := 4) dX2_isWaiting_4 ?_
  refine G_aload_n (pc := 7) dX2_isWaiting_7 rfl ?_
  refine K_Vn0r (pc := 8) (k' := (0, 0)) mok_X2_isOver lk_X2_47 hP.1 rfl rfl rfl (aok0 rfl) dX2_isWaiting_8 (C_isOverF hP D) rfl ?_
  refine G_if_neB (pc := 11) (tgt := 18) dX2_isWaiting_11 (by decide) (fun c11 => ?_) (fun c11 => ?_)
  · skip
    refine G_iconst (pc := 18) (v := nI 0) dX2_isWaiting_18 (by first | rfl | decide) ?_
    refine G_zret (pc := 19) VZ.n dX2_isWaiting_19 rfl (Or.inl rfl) ⟨by decide, by decide⟩ ?_
    first
      | exact ⟨congrArg (fun z => some (Value.int z)) (b2_f c11).symm, rfl⟩
      | exact ⟨congrArg (fun z => some (Value.int z)) (b2_t (Decidable.not_not.mp c11)).symm, rfl⟩
  · skip
    refine G_iconst (pc := 14) (v := nI 1) dX2_isWaiting_14 (by first | rfl | decide) ?_
    refine G_goto (pc := 15) (tgt := 19) dX2_isWaiting_15 (by decide) ?_
    refine G_zret (pc := 19) VZ.n dX2_isWaiting_19 rfl (Or.inr rfl) ⟨by decide, by decide⟩ ?_
    first
      | exact ⟨congrArg (fun z => some (Value.int z)) (b2_f c11).symm, rfl⟩
      | exact ⟨congrArg (fun z => some (Value.int z)) (b2_t (Decidable.not_not.mp c11)).symm, rfl⟩
theorem C_isWaitS {Γ : GTy} {Y : HS} {f p e : Nat} (hP : FS p e Y) (D : FT) {t : Nat} (hT : xR Y 2 5 p = some t) : Tn Γ M_X2_isWaiting [.ref p] (wF f p e Y D) (rt (some (.int (nI 0))) (wF f p e Y D)) := by
  refine Tn_of' rfl rfl rfl ?_
  show G Γ M_X2_isWaiting (rm M_X2_isWaiting) (Vn Γ M_X2_isWaiting (rt (some (.int (nI 0))) (wF f p e Y D))) (0, 0) 0 [some (.ref p)] [] (wF f p e Y D)
  refine G_aload_n (pc := 0) dX2_isWaiting_0 rfl ?_
  refine G_getS (pc := 1) fl_X2_43 hP.1 rfl hT dX2_isWaiting_1 ?_
  refine G_ifnonnull_r (pc := 4) (tgt := 18) dX2_isWaiting_4 (by decide) ?_
  refine G_iconst (pc := 18) (v := nI 0) dX2_isWaiting_18 (by first | rfl | decide) ?_
  refine G_zret (pc := 19) VZ.n dX2_isWaiting_19 rfl (Or.inl rfl) ⟨by decide, by decide⟩ ?_
  exact ⟨rfl, rfl⟩
theorem BV.nn {F : FT} {f k : Nat} (h : BV F f) (hk : k < 8) (h1 : ¬ F 118 (8 * f + k) = -1) : ¬ F 118 (8 * f + k) < 0 := by
  rcases h k hk with e | ⟨c, hc, e⟩
  · exact absurd e h1
  · rw [e]; exact nI_pos (by omega)
theorem C_lowestBall {Γ : GTy} {Y : HS} {f p e : Nat} (hP : FS p e Y) (D : FT) (hB : BV D f) : Tn Γ M_X2_lowestBall [.ref p] (wF f p e Y D) (rt (some (.int (lowF D f))) (wF f p e Y D)) := by
  refine Tn_of' rfl rfl rfl ?_
  show G Γ M_X2_lowestBall (rm M_X2_lowestBall) (Vn Γ M_X2_lowestBall (rt (some (.int (lowF D f))) (wF f p e Y D))) (0, 0) 0 [some (.ref p), none] [] (wF f p e Y D)
  have loop : ∀ (n9 j : Nat), j + n9 = 8 → lowA (fun k => ¬ D 118 (8 * f + k) < 0) n9 = lowF D f → G Γ M_X2_lowestBall (rm M_X2_lowestBall) (Vn Γ M_X2_lowestBall (rt (some (.int (lowF D f))) (wF f p e Y D))) (0, 0) 2 [some (.ref p), some (.int (nI j))] [] (wF f p e Y D) := by
    intro n9
    induction n9 with
    | zero =>
      intro j hj hq
      obtain rfl : j = 8 := by omega
      refine G_iload_n (pc := 2) dX2_lowestBall_2 rfl ?_
      refine G_aload_n (pc := 3) dX2_lowestBall_3 rfl ?_
      refine F_arr (pc := 4) hP fl_X2_18 dX2_lowestBall_4 ?_
      refine F_len (pc := 7) hP dX2_lowestBall_7 ?_
      refine G_icmp_geN (pc := 8) (tgt := 29) (by omega) (by omega) dX2_lowestBall_8 (by decide) (fun c8 => ?_) (fun c8 => ?_)
      · skip
        refine G_iconst (pc := 29) (v := -1) dX2_lowestBall_29 (by first | rfl | decide) ?_
        refine G_iret (pc := 30) VZ.n dX2_lowestBall_30 rfl ⟨by decide, by decide⟩ ?_
        exact ⟨congrArg (fun z => some (Value.int z)) hq, rfl⟩
      · omega
    | succ n9 ih =>
      intro j hj hq
      have hj9 : j < 8 := by omega
      refine G_iload_n (pc := 2) dX2_lowestBall_2 rfl ?_
      refine G_aload_n (pc := 3) dX2_lowestBall_3 rfl ?_
      refine F_arr (pc := 4) hP fl_X2_18 dX2_lowestBall_4 ?_
      refine F_len (pc := 7) hP dX2_lowestBall_7 ?_
      refine G_icmp_geN (pc := 8) (tgt := 29) (by omega) (by omega) dX2_lowestBall_8 (by decide) (fun c8 => ?_) (fun c8 => ?_)
      · omega
      · skip
        refine G_aload_n (pc := 11) dX2_lowestBall_11 rfl ?_
        refine F_arr (pc := 12) hP fl_X2_18 dX2_lowestBall_12 ?_
        refine G_iload_n (pc := 15) dX2_lowestBall_15 rfl ?_
        refine F_ldv (pc := 16) (j := j) (v := D 118 (8 * f + j)) rfl hP rfl hj9 dX2_lowestBall_16 ?_
        refine G_iconst (pc := 17) (v := -1) dX2_lowestBall_17 (by first | rfl | decide) ?_
        refine G_icmp_eq (pc := 18) (tgt := 23) dX2_lowestBall_18 (by decide) (fun c18 => ?_) (fun c18 => ?_)
        · skip
          rw [show lowA (fun k => ¬ D 118 (8 * f + k) < 0) (n9 + 1) = lowA (fun k => ¬ D 118 (8 * f + k) < 0) n9 from if_neg (by show ¬ ¬ D 118 (8 * f + (7 - n9)) < 0; rw [show 7 - n9 = j by omega, c18]; decide)] at hq
          refine G_iincN (pc := 23) dX2_lowestBall_23 rfl (by decide) ?_
          refine G_goto (pc := 26) (tgt := 2) dX2_lowestBall_26 (by decide) ?_
          exact ih (j + 1) (by omega) hq
        · skip
          rw [show lowA (fun k => ¬ D 118 (8 * f + k) < 0) (n9 + 1) = nI (7 - n9) from if_pos (by show ¬ D 118 (8 * f + (7 - n9)) < 0; rw [show 7 - n9 = j by omega]; exact hB.nn hj9 c18), show 7 - n9 = j by omega] at hq
          refine G_iload_n (pc := 21) dX2_lowestBall_21 rfl ?_
          refine G_iret (pc := 22) VZ.n dX2_lowestBall_22 rfl ⟨by decide, by decide⟩ ?_
          exact ⟨congrArg (fun z => some (Value.int z)) hq, rfl⟩
  refine G_iconst (pc := 0) (v := nI 1) dX2_lowestBall_0 (by first | rfl | decide) ?_
  refine G_istore_n (pc := 1) dX2_lowestBall_1 (by decide) ?_
  exact loop 7 1 rfl rfl
theorem C_ballIn {Γ : GTy} {Y : HS} {f p e : Nat} (hP : FS p e Y) (D : FT) {E : FT} (hE : ∀ j, j < 8 → D 118 (8 * f + j) = E 119 j) (hD : DV E) {c : Nat} (hc : c < 2 ^ 31) : Tn Γ M_X2_ballIn [.ref p, .int (nI c)] (wF f p e Y D) (rt (some (.int (mIn E (nI c)))) (wF f p e Y D)) := by
  refine Tn_of' rfl rfl rfl ?_
  show G Γ M_X2_ballIn (rm M_X2_ballIn) (Vn Γ M_X2_ballIn (rt (some (.int (mIn E (nI c)))) (wF f p e Y D))) (0, 0) 0 [some (.ref p), some (.int (nI c)), none] [] (wF f p e Y D)
  have loop : ∀ (n9 j : Nat), j + n9 = 8 → (∀ i, i < j → ¬ E 119 i = nI c) → G Γ M_X2_ballIn (rm M_X2_ballIn) (Vn Γ M_X2_ballIn (rt (some (.int (mIn E (nI c)))) (wF f p e Y D))) (0, 0) 2 [some (.ref p), some (.int (nI c)), some (.int (nI j))] [] (wF f p e Y D) := by
    intro n9
    induction n9 with
    | zero =>
      intro j hj hq
      obtain rfl : j = 8 := by omega
      refine G_iload_n (pc := 2) dX2_ballIn_2 rfl ?_
      refine G_aload_n (pc := 3) dX2_ballIn_3 rfl ?_
      refine F_arr (pc := 4) hP fl_X2_18 dX2_ballIn_4 ?_
      refine F_len (pc := 7) hP dX2_ballIn_7 ?_
      refine G_icmp_geN (pc := 8) (tgt := 29) (by omega) (by omega) dX2_ballIn_8 (by decide) (fun c8 => ?_) (fun c8 => ?_)
      · skip
        refine G_iconst (pc := 29) (v := -1) dX2_ballIn_29 (by first | rfl | decide) ?_
        refine G_iret (pc := 30) VZ.n dX2_ballIn_30 rfl ⟨by decide, by decide⟩ ?_
        exact ⟨congrArg (fun z => some (Value.int z)) (mIn_n hq).symm, rfl⟩
      · omega
    | succ n9 ih =>
      intro j hj hq
      have hj9 : j < 8 := by omega
      refine G_iload_n (pc := 2) dX2_ballIn_2 rfl ?_
      refine G_aload_n (pc := 3) dX2_ballIn_3 rfl ?_
      refine F_arr (pc := 4) hP fl_X2_18 dX2_ballIn_4 ?_
      refine F_len (pc := 7) hP dX2_ballIn_7 ?_
      refine G_icmp_geN (pc := 8) (tgt := 29) (by omega) (by omega) dX2_ballIn_8 (by decide) (fun c8 => ?_) (fun c8 => ?_)
      · omega
      · skip
        refine G_aload_n (pc := 11) dX2_ballIn_11 rfl ?_
        refine F_arr (pc := 12) hP fl_X2_18 dX2_ballIn_12 ?_
        refine G_iload_n (pc := 15) dX2_ballIn_15 rfl ?_
        refine F_ldv (pc := 16) (j := j) (v := E 119 j) (hE j hj9) hP rfl hj9 dX2_ballIn_16 ?_
        refine G_iload_n (pc := 17) dX2_ballIn_17 rfl ?_
        refine G_icmp_ne (pc := 18) (tgt := 23) dX2_ballIn_18 (by decide) (fun c18 => ?_) (fun c18 => ?_)
        · skip
          refine G_iincN (pc := 23) dX2_ballIn_23 rfl (by decide) ?_
          refine G_goto (pc := 26) (tgt := 2) dX2_ballIn_26 (by decide) ?_
          exact ih (j + 1) (by omega) (fun i hi => by by_cases e : i = j; (subst e; exact c18); exact hq i (by omega))
        · skip
          refine G_iload_n (pc := 21) dX2_ballIn_21 rfl ?_
          refine G_iret (pc := 22) VZ.n dX2_ballIn_22 rfl ⟨by decide, by decide⟩ ?_
          exact ⟨congrArg (fun z => some (Value.int z)) (mIn_u hD hj9 hc c18).symm, rfl⟩
  refine G_iconst (pc := 0) (v := nI 0) dX2_ballIn_0 (by first | rfl | decide) ?_
  refine G_istore_n (pc := 1) dX2_ballIn_1 (by decide) ?_
  exact loop 8 0 rfl (fun i hi => absurd hi (Nat.not_lt_zero i))
theorem C_lowestEmpty {Γ : GTy} {Y : HS} {f p e : Nat} (hP : FS p e Y) (D : FT) (hG : GS Γ) {E : FT} (hE : ∀ j, j < 8 → D 118 (8 * f + j) = E 119 j) (hD : DV E) : Tn Γ M_X2_lowestEmptyCell [.ref p] (wF f p e Y D) (rt (some (.int (nI (firstN (fre E) 128 0)))) (wF f p e Y D)) := by
  refine Tn_of' rfl rfl rfl ?_
  show G Γ M_X2_lowestEmptyCell (rm M_X2_lowestEmptyCell) (Vn Γ M_X2_lowestEmptyCell (rt (some (.int (nI (firstN (fre E) 128 0)))) (wF f p e Y D))) (0, 0) 0 [some (.ref p), none] [] (wF f p e Y D)
  have loop : ∀ (n9 j : Nat), j + n9 = 128 → (∀ i, i < j → ¬ fre E i) → G Γ M_X2_lowestEmptyCell (rm M_X2_lowestEmptyCell) (Vn Γ M_X2_lowestEmptyCell (rt (some (.int (nI (firstN (fre E) 128 0)))) (wF f p e Y D))) (0, 0) 2 [some (.ref p), some (.int (nI j))] [] (wF f p e Y D) := by
    intro n9
    induction n9 with
    | zero =>
      intro j hj hq
      obtain rfl : j = 128 := by omega
      refine G_iload_n (pc := 2) dX2_lowestEmptyCell_2 rfl ?_
      refine G_sipush (pc := 3) (v := nI 128) dX2_lowestEmptyCell_3 (by first | rfl | decide) ?_
      refine G_icmp_geN (pc := 6) (tgt := 33) (by omega) (by omega) dX2_lowestEmptyCell_6 (by decide) (fun c6 => ?_) (fun c6 => ?_)
      · skip
        obtain ⟨x, x1, x2⟩ := free_ex E
        exact absurd x2 (hq x (by omega))
      · omega
    | succ n9 ih =>
      intro j hj hq
      have hj9 : j < 128 := by omega
      refine G_iload_n (pc := 2) dX2_lowestEmptyCell_2 rfl ?_
      refine G_sipush (pc := 3) (v := nI 128) dX2_lowestEmptyCell_3 (by first | rfl | decide) ?_
      refine G_icmp_geN (pc := 6) (tgt := 33) (by omega) (by omega) dX2_lowestEmptyCell_6 (by decide) (fun c6 => ?_) (fun c6 => ?_)
      · omega
      · skip
        refine G_iload_n (pc := 9) dX2_lowestEmptyCell_9 rfl ?_
        refine K_NS1r (pc := 10) (k' := (0, 0)) mok_X9_isPocket lk_X2_120 rfl (aok0 rfl) dX2_lowestEmptyCell_10 (C_pocketC hG hj9 _) rfl ?_
        refine G_if_neB (pc := 13) (tgt := 27) dX2_lowestEmptyCell_13 (by decide) (fun c13 => ?_) (fun c13 => ?_)
        · skip
          refine G_iincN (pc := 27) dX2_lowestEmptyCell_27 rfl (by decide) ?_
          refine G_goto (pc := 30) (tgt := 2) dX2_lowestEmptyCell_30 (by decide) ?_
          refine ih (j + 1) (by omega) (fun i hi => ?_)
          by_cases e9 : i = j
          · subst e9
            first
              | exact fun g => g.1 c13
              | exact fun g => c22 g.2
          · exact hq i (by omega)
        · skip
          refine G_aload_n (pc := 16) dX2_lowestEmptyCell_16 rfl ?_
          refine G_iload_n (pc := 17) dX2_lowestEmptyCell_17 rfl ?_
          refine K_Vn1r (pc := 18) (k' := (0, 0)) mok_X2_ballIn lk_X2_113 hP.1 rfl rfl rfl (aok0 rfl) dX2_lowestEmptyCell_18 (C_ballIn hP D hE hD (by omega)) rfl ?_
          refine G_iconst (pc := 21) (v := -1) dX2_lowestEmptyCell_21 (by first | rfl | decide) ?_
          refine G_icmp_ne (pc := 22) (tgt := 27) dX2_lowestEmptyCell_22 (by decide) (fun c22 => ?_) (fun c22 => ?_)
          · skip
            refine G_iincN (pc := 27) dX2_lowestEmptyCell_27 rfl (by decide) ?_
            refine G_goto (pc := 30) (tgt := 2) dX2_lowestEmptyCell_30 (by decide) ?_
            refine ih (j + 1) (by omega) (fun i hi => ?_)
            by_cases e9 : i = j
            · subst e9
              first
                | exact fun g => g.1 c13
                | exact fun g => c22 g.2
            · exact hq i (by omega)
          · skip
            refine G_iload_n (pc := 25) dX2_lowestEmptyCell_25 rfl ?_
            refine G_iret (pc := 26) VZ.n dX2_lowestEmptyCell_26 rfl ⟨by decide, by decide⟩ ?_
            exact ⟨congrArg (fun z => some (Value.int z)) (congrArg nI (firstN_is hj9 ⟨c13, c22⟩ hq)).symm, rfl⟩
  refine G_iconst (pc := 0) (v := nI 0) dX2_lowestEmptyCell_0 (by first | rfl | decide) ?_
  refine G_istore_n (pc := 1) dX2_lowestEmptyCell_1 (by decide) ?_
  exact loop 128 0 rfl (fun i hi => absurd hi (Nat.not_lt_zero i))
theorem C_comeBack {Γ : GTy} {Y : HS} {f p e : Nat} (hP : FS p e Y) (D : FT) (hG : GS Γ) {E : FT} (hE : ∀ j, j < 8 → D 118 (8 * f + j) = E 119 j) (hD : DV E) {b : Nat} (hb : b < 8) : Tn Γ M_X2_comeBack [.ref p, .int (nI b)] (wF f p e Y D) (rt none (wF f p e Y (u2 D 118 (8 * f + b) (nI (cbC E b))))) := by
  refine Tn_of' rfl rfl rfl ?_
  show G Γ M_X2_comeBack (rm M_X2_comeBack) (Vn Γ M_X2_comeBack (rt none (wF f p e Y (u2 D 118 (8 * f + b) (nI (cbC E b)))))) (0, 0) 0 [some (.ref p), some (.int (nI b))] [] (wF f p e Y D)
  refine G_iload_n (pc := 0) dX2_comeBack_0 rfl ?_
  refine G_if_ltN (pc := 1) (tgt := 21) (by omega) dX2_comeBack_1 (by decide) (fun c1 => ?_) (fun c1 => ?_)
  · omega
  · skip
    refine G_iload_n (pc := 4) dX2_comeBack_4 rfl ?_
    refine G_aload_n (pc := 5) dX2_comeBack_5 rfl ?_
    refine F_arr (pc := 6) hP fl_X2_18 dX2_comeBack_6 ?_
    refine F_len (pc := 9) hP dX2_comeBack_9 ?_
    refine G_icmp_geN (pc := 10) (tgt := 21) (by omega) (by omega) dX2_comeBack_10 (by decide) (fun c10 => ?_) (fun c10 => ?_)
    · omega
    · skip
      refine G_iload_n (pc := 13) dX2_comeBack_13 rfl ?_
      refine G_getst (pc := 14) (i := 0) (by decide) ls_X2_9 dX2_comeBack_14 ?_
      refine G_slen (pc := 17) (i := 0) (v := nI 8) (by decide) (congrArg nI hG.1.1) dX2_comeBack_17 ?_
      refine G_icmp_ltN (pc := 18) (tgt := 22) (by omega) (by omega) dX2_comeBack_18 (by decide) (fun c18 => ?_) (fun c18 => ?_)
      · skip
        refine G_aload_n (pc := 22) dX2_comeBack_22 rfl ?_
        refine F_arr (pc := 23) hP fl_X2_18 dX2_comeBack_23 ?_
        refine G_iload_n (pc := 26) dX2_comeBack_26 rfl ?_
        refine G_aload_n (pc := 27) dX2_comeBack_27 rfl ?_
        refine G_getst (pc := 28) (i := 0) (by decide) ls_X2_9 dX2_comeBack_28 ?_
        refine G_iload_n (pc := 31) dX2_comeBack_31 rfl ?_
        refine G_saldv (pc := 32) (i := 0) (j := b) (v := nI (spN b)) (hG.1.2 b hb) (by decide) rfl (by rw [hG.1.1]; exact hb) (by omega) dX2_comeBack_32 ?_
        refine K_Vn1r (pc := 33) (k' := (0, 0)) mok_X2_ballIn lk_X2_113 hP.1 rfl rfl rfl (aok0 rfl) dX2_comeBack_33 (C_ballIn hP D hE hD (by have := spN_lt b; omega)) rfl ?_
        refine G_iconst (pc := 36) (v := -1) dX2_comeBack_36 (by first | rfl | decide) ?_
        refine G_icmp_ne (pc := 37) (tgt := 48) dX2_comeBack_37 (by decide) (fun c37 => ?_) (fun c37 => ?_)
        · skip
          have e9 : cbC E b = firstN (fre E) 128 0 := if_neg c37
          refine G_aload_n (pc := 48) dX2_comeBack_48 rfl ?_
          refine K_Vn0r (pc := 49) (k' := (0, 0)) mok_X2_lowestEmptyCell lk_X2_117 hP.1 rfl rfl rfl (aok0 rfl) dX2_comeBack_49 (C_lowestEmpty hP D hG hE hD) rfl ?_
          rw [← e9]
          refine F_st (pc := 52) (j := b) hP rfl hb dX2_comeBack_52 ?_
          refine G_vret (pc := 53) VZ.n dX2_comeBack_53 rfl ⟨by decide, by decide⟩ ?_
          exact ⟨rfl, rfl⟩
        · skip
          have e9 : cbC E b = spN b := if_pos c37
          refine G_getst (pc := 40) (i := 0) (by decide) ls_X2_9 dX2_comeBack_40 ?_
          refine G_iload_n (pc := 43) dX2_comeBack_43 rfl ?_
          refine G_saldv (pc := 44) (i := 0) (j := b) (v := nI (spN b)) (hG.1.2 b hb) (by decide) rfl (by rw [hG.1.1]; exact hb) (by omega) dX2_comeBack_44 ?_
          refine G_goto (pc := 45) (tgt := 52) dX2_comeBack_45 (by decide) ?_
          rw [← e9]
          refine F_st (pc := 52) (j := b) hP rfl hb dX2_comeBack_52 ?_
          refine G_vret (pc := 53) VZ.n dX2_comeBack_53 rfl ⟨by decide, by decide⟩ ?_
          exact ⟨rfl, rfl⟩
      · omega
theorem seenN_0 {F : FT} {d k r n : Nat} (h : ¬ ((1 ≤ k ∧ k ≤ 16) ∧ (1 ≤ r ∧ r ≤ 8))) : seenN F d n k r = -1 := by
  cases n with
  | zero => rfl
  | succ n =>
    show (if 1 ≤ k ∧ k ≤ 16 then (if 1 ≤ r ∧ r ≤ 8 then _ else -1) else -1) = -1
    by_cases g : 1 ≤ k ∧ k ≤ 16
    · rw [if_pos g, if_neg (fun q => h ⟨g, q⟩)]
    · rw [if_neg g]
theorem seenN_1 {F : FT} {d c n : Nat} (h : cin c d) (g : rin c d) : seenN F d (n + 1) (c % 16 + ex d) (c / 16 + ey d) = if mIn F (nI (nx c d)) = -1 then seenN F d n (nx c d % 16 + ex d) (nx c d / 16 + ey d) else mIn F (nI (nx c d)) := by
  show (if 1 ≤ c % 16 + ex d ∧ c % 16 + ex d ≤ 16 then (if 1 ≤ c / 16 + ey d ∧ c / 16 + ey d ≤ 8 then (if mIn F (nI (16 * (c / 16 + ey d - 1) + (c % 16 + ex d - 1))) = -1 then seenN F d n (c % 16 + ex d + ex d - 1) (c / 16 + ey d + ey d - 1) else mIn F (nI (16 * (c / 16 + ey d - 1) + (c % 16 + ex d - 1)))) else -1) else -1) = _
  rw [if_pos h, if_pos g]
  have h1 := h.1; have h2 := h.2; have g1 := g.1; have g2 := g.2
  have e1 : nx c d % 16 + ex d = c % 16 + ex d + ex d - 1 := by unfold nx; omega
  have e2 : nx c d / 16 + ey d = c / 16 + ey d + ey d - 1 := by unfold nx; omega
  rw [e1, e2]
  rfl
theorem ms_15 {c d : Nat} (h1 : c < 128) (h2 : d < 8) : ms d (c % 16 + ex d) (c / 16 + ey d) ≤ 15 := by
  have := ex_le d
  have := ey_le d
  unfold ms
  have h : d = 0 ∨ d = 1 ∨ d = 2 ∨ d = 3 ∨ d = 4 ∨ d = 5 ∨ d = 6 ∨ d = 7 := by omega
  rcases h with rfl | rfl | rfl | rfl | rfl | rfl | rfl | rfl
  · show c / 16 + 0 ≤ 15; omega
  · show 17 - (c % 16 + 2) ≤ 15; omega
  · show 17 - (c % 16 + 2) ≤ 15; omega
  · show 17 - (c % 16 + 2) ≤ 15; omega
  · show 9 - (c / 16 + 2) ≤ 15; omega
  · show c % 16 + 0 ≤ 15; omega
  · show c % 16 + 0 ≤ 15; omega
  · show c % 16 + 0 ≤ 15; omega
theorem C_firstWhite {Γ : GTy} {Y : HS} {f p e : Nat} (hP : FS p e Y) (D : FT) (hG : GS Γ) {E : FT} (hE : ∀ j, j < 8 → D 118 (8 * f + j) = E 119 j) (hD : DV E) {c d : Nat} (hw : E 119 0 = nI c) (hc : c < 128) (d8 : d < 8) : Tn Γ M_X2_firstBallFromWhite [.ref p, .int (nI d)] (wF f p e Y D) (rt (some (.int (seeF E d))) (wF f p e Y D)) := by
  refine Tn_of' rfl rfl rfl ?_
  show G Γ M_X2_firstBallFromWhite (rm M_X2_firstBallFromWhite) (Vn Γ M_X2_firstBallFromWhite (rt (some (.int (seeF E d))) (wF f p e Y D))) (0, 0) 0 [some (.ref p), some (.int (nI d)), none, none, none] [] (wF f p e Y D)
  have loop : ∀ (n9 j : Nat) (c9 : Nat) (v4 : Option Value), j + n9 = 16 → c9 < 128 → ms d (c9 % 16 + ex d) (c9 / 16 + ey d) + j ≤ 15 → seenN E d (n9 + 2) (c9 % 16 + ex d) (c9 / 16 + ey d) = seeF E d → G Γ M_X2_firstBallFromWhite (rm M_X2_firstBallFromWhite) (Vn Γ M_X2_firstBallFromWhite (rt (some (.int (seeF E d))) (wF f p e Y D))) (0, 0) 9 [some (.ref p), some (.int (nI d)), some (.int (nI c9)), some (.int (nI j)), v4] [] (wF f p e Y D) := by
    intro n9
    induction n9 with
    | zero =>
      intro j c9 v4 hj c1 hm hq
      obtain rfl : j = 16 := by omega
      refine G_iload_n (pc := 9) dX2_firstBallFromWhite_9 rfl ?_
      refine G_bipush (pc := 10) (v := nI 16) dX2_firstBallFromWhite_10 (by first | rfl | decide) ?_
      refine G_icmp_geN (pc := 12) (tgt := 50) (by omega) (by omega) dX2_firstBallFromWhite_12 (by decide) (fun c12 => ?_) (fun c12 => ?_)
      · skip
        omega
      · omega
    | succ n9 ih =>
      intro j c9 v4 hj c1 hm hq
      have hj9 : j < 16 := by omega
      refine G_iload_n (pc := 9) dX2_firstBallFromWhite_9 rfl ?_
      refine G_bipush (pc := 10) (v := nI 16) dX2_firstBallFromWhite_10 (by first | rfl | decide) ?_
      refine G_icmp_geN (pc := 12) (tgt := 50) (by omega) (by omega) dX2_firstBallFromWhite_12 (by decide) (fun c12 => ?_) (fun c12 => ?_)
      · omega
      · skip
        refine G_iload_n (pc := 15) dX2_firstBallFromWhite_15 rfl ?_
        refine G_iload_n (pc := 16) dX2_firstBallFromWhite_16 rfl ?_
        by_cases hx : cin c9 d ∧ rin c9 d
        · have x1 := nx_lt hx.1 hx.2
          have m1 := ms_lt d8 hx.1 hx.2
          have e1 : nx c9 d % 16 + ex d = c9 % 16 + ex d + ex d - 1 := by have h1 := hx.1.1; have h2 := hx.1.2; have g1 := hx.2.1; have g2 := hx.2.2; unfold nx; omega
          have e2 : nx c9 d / 16 + ey d = c9 / 16 + ey d + ey d - 1 := by have h1 := hx.1.1; have h2 := hx.1.2; have g1 := hx.2.1; have g2 := hx.2.2; unfold nx; omega
          rw [← e1, ← e2] at m1
          rw [seenN_1 hx.1 hx.2] at hq
          refine K_NS2r (pc := 17) (k' := (0, 0)) mok_X9_cellBeside lk_X2_126 rfl (aok0 rfl) dX2_firstBallFromWhite_17 (C_cellBesideN hG c1 d8 hx _) rfl ?_
          refine G_istore_n (pc := 20) dX2_firstBallFromWhite_20 (by decide) ?_
          refine G_iload_n (pc := 21) dX2_firstBallFromWhite_21 rfl ?_
          refine G_iconst (pc := 22) (v := -1) dX2_firstBallFromWhite_22 (by first | rfl | decide) ?_
          refine G_icmp_ne (pc := 23) (tgt := 28) dX2_firstBallFromWhite_23 (by decide) (fun c23 => ?_) (fun c23 => ?_)
          · skip
            refine G_aload_n (pc := 28) dX2_firstBallFromWhite_28 rfl ?_
            refine G_iload_n (pc := 29) dX2_firstBallFromWhite_29 rfl ?_
            refine K_Vn1r (pc := 30) (k' := (0, 0)) mok_X2_ballIn lk_X2_113 hP.1 rfl rfl rfl (aok0 rfl) dX2_firstBallFromWhite_30 (C_ballIn hP D hE hD (by omega)) rfl ?_
            refine G_istore (pc := 33) dX2_firstBallFromWhite_33 (by decide) ?_
            refine G_iload (pc := 35) dX2_firstBallFromWhite_35 rfl ?_
            refine G_iconst (pc := 37) (v := -1) dX2_firstBallFromWhite_37 (by first | rfl | decide) ?_
            refine G_icmp_eq (pc := 38) (tgt := 44) dX2_firstBallFromWhite_38 (by decide) (fun c38 => ?_) (fun c38 => ?_)
            · skip
              rw [if_pos c38] at hq
              refine G_iincN (pc := 44) dX2_firstBallFromWhite_44 rfl (by decide) ?_
              refine G_goto (pc := 47) (tgt := 9) dX2_firstBallFromWhite_47 (by decide) ?_
              exact ih (j + 1) _ _ (by omega) x1 (by omega) hq
            · skip
              rw [if_neg c38] at hq
              refine G_iload (pc := 41) dX2_firstBallFromWhite_41 rfl ?_
              refine G_iret (pc := 43) VZ.n dX2_firstBallFromWhite_43 rfl ⟨by decide, by decide⟩ ?_
              exact ⟨congrArg (fun z => some (Value.int z)) hq, rfl⟩
          · exact absurd c23 (nI_nm1 (by omega))
        · rw [seenN_0 hx] at hq
          refine K_NS2r (pc := 17) (k' := (0, 0)) mok_X9_cellBeside lk_X2_126 rfl (aok0 rfl) dX2_firstBallFromWhite_17 (C_cellBesideX hG c1 d8 hx _) rfl ?_
          refine G_istore_n (pc := 20) dX2_firstBallFromWhite_20 (by decide) ?_
          refine G_iload_n (pc := 21) dX2_firstBallFromWhite_21 rfl ?_
          refine G_iconst (pc := 22) (v := -1) dX2_firstBallFromWhite_22 (by first | rfl | decide) ?_
          refine G_icmp_ne (pc := 23) (tgt := 28) dX2_firstBallFromWhite_23 (by decide) (fun h => absurd h (by decide)) (fun _ => ?_)
          refine G_iconst (pc := 26) (v := -1) dX2_firstBallFromWhite_26 (by first | rfl | decide) ?_
          refine G_iret (pc := 27) VZ.n dX2_firstBallFromWhite_27 rfl ⟨by decide, by decide⟩ ?_
          exact ⟨congrArg (fun z => some (Value.int z)) hq, rfl⟩
  refine G_aload_n (pc := 0) dX2_firstBallFromWhite_0 rfl ?_
  refine F_arr (pc := 1) hP fl_X2_18 dX2_firstBallFromWhite_1 ?_
  refine G_iconst (pc := 4) (v := nI 0) dX2_firstBallFromWhite_4 (by first | rfl | decide) ?_
  refine F_ldv (pc := 5) (j := 0) (v := nI c) ((hE 0 (by decide)).trans hw) hP rfl (by decide) dX2_firstBallFromWhite_5 ?_
  refine G_istore_n (pc := 6) dX2_firstBallFromWhite_6 (by decide) ?_
  refine G_iconst (pc := 7) (v := nI 0) dX2_firstBallFromWhite_7 (by first | rfl | decide) ?_
  refine G_istore_n (pc := 8) dX2_firstBallFromWhite_8 (by decide) ?_
  refine loop 16 0 c none rfl hc (ms_15 hc d8) ?_
  unfold seeF
  rw [hw, nI_clamp (by omega)]
theorem C_isHid {Γ : GTy} {Y : HS} {f p e : Nat} (hP : FS p e Y) (D : FT) (hG : GS Γ) {E : FT} (hE : ∀ j, j < 8 → D 118 (8 * f + j) = E 119 j) (hD : DV E) {c : Nat} (hw : E 119 0 = nI c) (hc : c < 128) (x : Int32) : Tn Γ M_X2_isHidden [.ref p, .int x] (wF f p e Y D) (rt (some (.int (b2 (allB (hidP E x) 8 = true)))) (wF f p e Y D)) := by
  refine Tn_of' rfl rfl rfl ?_
  show G Γ M_X2_isHidden (rm M_X2_isHidden) (Vn Γ M_X2_isHidden (rt (some (.int (b2 (allB (hidP E x) 8 = true)))) (wF f p e Y D))) (0, 0) 0 [some (.ref p), some (.int x), none] [] (wF f p e Y D)
  have loop : ∀ (n9 j : Nat), j + n9 = 8 → (∀ i, i < j → hidP E x i) → G Γ M_X2_isHidden (rm M_X2_isHidden) (Vn Γ M_X2_isHidden (rt (some (.int (b2 (allB (hidP E x) 8 = true)))) (wF f p e Y D))) (0, 0) 2 [some (.ref p), some (.int x), some (.int (nI j))] [] (wF f p e Y D) := by
    intro n9
    induction n9 with
    | zero =>
      intro j hj hq
      obtain rfl : j = 8 := by omega
      refine G_iload_n (pc := 2) dX2_isHidden_2 rfl ?_
      refine G_bipush (pc := 3) (v := nI 8) dX2_isHidden_3 (by first | rfl | decide) ?_
      refine G_icmp_geN (pc := 5) (tgt := 25) (by omega) (by omega) dX2_isHidden_5 (by decide) (fun c5 => ?_) (fun c5 => ?_)
      · skip
        refine G_iconst (pc := 25) (v := nI 1) dX2_isHidden_25 (by first | rfl | decide) ?_
        refine G_zret (pc := 26) VZ.n dX2_isHidden_26 rfl (Or.inr rfl) ⟨by decide, by decide⟩ ?_
        exact ⟨congrArg (fun z => some (Value.int z)) (b2_t ((allB_iff (p := hidP E x) 8).mpr hq)).symm, rfl⟩
      · omega
    | succ n9 ih =>
      intro j hj hq
      have hj9 : j < 8 := by omega
      refine G_iload_n (pc := 2) dX2_isHidden_2 rfl ?_
      refine G_bipush (pc := 3) (v := nI 8) dX2_isHidden_3 (by first | rfl | decide) ?_
      refine G_icmp_geN (pc := 5) (tgt := 25) (by omega) (by omega) dX2_isHidden_5 (by decide) (fun c5 => ?_) (fun c5 => ?_)
      · omega
      · skip
        refine G_aload_n (pc := 8) dX2_isHidden_8 rfl ?_
        refine G_iload_n (pc := 9) dX2_isHidden_9 rfl ?_
        refine K_Vn1r (pc := 10) (k' := (0, 0)) mok_X2_firstBallFromWhite lk_X2_123 hP.1 rfl rfl rfl (aok0 rfl) dX2_isHidden_10 (C_firstWhite hP D hG hE hD hw hc hj9) rfl ?_
        refine G_iload_n (pc := 13) dX2_isHidden_13 rfl ?_
        refine G_icmp_ne (pc := 14) (tgt := 19) dX2_isHidden_14 (by decide) (fun c14 => ?_) (fun c14 => ?_)
        · skip
          refine G_iincN (pc := 19) dX2_isHidden_19 rfl (by decide) ?_
          refine G_goto (pc := 22) (tgt := 2) dX2_isHidden_22 (by decide) ?_
          exact ih (j + 1) (by omega) (fun i hi => by by_cases e9 : i = j; (subst e9; exact c14); exact hq i (by omega))
        · skip
          refine G_iconst (pc := 17) (v := nI 0) dX2_isHidden_17 (by first | rfl | decide) ?_
          refine G_zret (pc := 18) VZ.n dX2_isHidden_18 rfl (Or.inl rfl) ⟨by decide, by decide⟩ ?_
          exact ⟨congrArg (fun z => some (Value.int z)) (b2_f (fun g => (allB_iff (p := hidP E x) 8).mp g j hj9 c14)).symm, rfl⟩
  refine G_iconst (pc := 0) (v := nI 0) dX2_isHidden_0 (by first | rfl | decide) ?_
  refine G_istore_n (pc := 1) dX2_isHidden_1 (by decide) ?_
  exact loop 8 0 rfl (fun i hi => absurd hi (Nat.not_lt_zero i))
