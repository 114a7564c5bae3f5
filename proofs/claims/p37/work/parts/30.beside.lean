-- ===== bits of dropped balls =====
theorem bit0 (y : BitVec 32) : y &&& 1#32 = 1#32 ↔ y.getLsbD 0 = true := by
  constructor
  · intro h
    have e := congrArg (fun z => z.getLsbD 0) h
    simpa using e
  · intro h
    apply BitVec.eq_of_getLsbD_eq
    intro i hi
    by_cases e : i = 0
    · subst e
      simpa using h
    · simp [e]
theorem dbit1 (x : Int32) {j : Nat} (hj : j < 8) : ((x >>> (nI j &&& 31)) &&& nI 1 = nI 1) ↔ x.toBitVec.getLsbD j = true := by
  rw [← Int32.toBitVec_inj, Int32.toBitVec_and, Int32.toBitVec_shiftRight]
  have : j = 0 ∨ j = 1 ∨ j = 2 ∨ j = 3 ∨ j = 4 ∨ j = 5 ∨ j = 6 ∨ j = 7 := by omega
  rcases this with rfl | rfl | rfl | rfl | rfl | rfl | rfl | rfl
  all_goals
    refine Iff.trans (bit0 _) ?_
    rw [BitVec.sshiftRight_eq']
    rw [BitVec.getLsbD_sshiftRight]
    simp [nI]
theorem dbit2 {j b : Nat} (hj : j < 8) (hb : b < 8) : (nI 1 <<< (nI b &&& 31)).toBitVec.getLsbD j = decide (j = b) := by
  have : j = 0 ∨ j = 1 ∨ j = 2 ∨ j = 3 ∨ j = 4 ∨ j = 5 ∨ j = 6 ∨ j = 7 := by omega
  have : b = 0 ∨ b = 1 ∨ b = 2 ∨ b = 3 ∨ b = 4 ∨ b = 5 ∨ b = 6 ∨ b = 7 := by omega
  rcases this with rfl | rfl | rfl | rfl | rfl | rfl | rfl | rfl <;> rcases ‹j = 0 ∨ _› with rfl | rfl | rfl | rfl | rfl | rfl | rfl | rfl <;> decide
theorem dbit (x : Int32) {j b : Nat} (hj : j < 8) (hb : b < 8) : (((x ||| (nI 1 <<< (nI b &&& 31))) >>> (nI j &&& 31)) &&& nI 1 = nI 1) ↔ (((x >>> (nI j &&& 31)) &&& nI 1 = nI 1) ∨ j = b) := by
  rw [dbit1 _ hj, dbit1 _ hj, Int32.toBitVec_or, BitVec.getLsbD_or, dbit2 hj hb]
  simp
theorem dbit_0 {j : Nat} (hj : j < 8) : ¬ ((nI 0 >>> (nI j &&& 31)) &&& nI 1 = nI 1) := by
  have : j = 0 ∨ j = 1 ∨ j = 2 ∨ j = 3 ∨ j = 4 ∨ j = 5 ∨ j = 6 ∨ j = 7 := by omega
  rcases this with rfl | rfl | rfl | rfl | rfl | rfl | rfl | rfl <;> decide
-- ===== a roll beside the model's shot =====
def DV (F : FT) : Prop := ∀ i j, i < 8 → j < 8 → F 119 i = F 119 j → ¬ F 119 i = -1 → i = j
def MV (F : FT) : Prop := F 22 0 = -1 ∨ ∃ x, x < 8 ∧ F 22 0 = nI x
def NV (F : FT) : Prop := ∀ k, k < 8 → ¬ F 119 k = -1 → ¬ dB F k
def JV (F : FT) : Prop := PV F ∧ DV F ∧ MV F ∧ NV F
/-- the roll A stands as the model's F -/
def RB (c : Nat) (A F : FT) : Prop := (∀ j, j < 8 → A 119 j = F 119 j ∧ A 120 j = F 120 j ∧ A 121 j = F 121 j ∧ A 122 j = b2 (dB F j)) ∧ A 22 0 = F 22 0 ∧ A 23 0 = F 23 0 ∧ (c = 0 → ∀ x, x < 128 → A 123 x = mIn F (nI x) + nI 1)
theorem PV.nn {F : FT} {k : Nat} (h : PV F) (hk : k < 8) (h1 : ¬ F 119 k = -1) : ∃ c, c < 128 ∧ F 119 k = nI c := by
  rcases (h k hk).1 with e | e
  · exact absurd e h1
  · exact e
theorem PV.nl {F : FT} {k : Nat} (h : PV F) (hk : k < 8) (h1 : ¬ F 119 k = -1) : ¬ F 119 k < 0 := by
  obtain ⟨c, hc, e⟩ := h.nn hk h1
  rw [e]
  exact nI_pos (by omega)
theorem mIn_u {F : FT} {o x : Nat} (h : DV F) (ho : o < 8) (hx : x < 2 ^ 31) (e : F 119 o = nI x) : mIn F (nI x) = nI o := by
  rcases lastW_spec (fun k => F 119 k = nI x) 8 with ⟨-, h2⟩ | ⟨j, h1, h2, h3, -⟩
  · exact absurd e (h2 o ho)
  · have : j = o := h j o h1 ho (h2.trans e.symm) (by rw [h2]; exact nI_nm1 hx)
    rw [← this]
    exact h3
theorem mIn_n {F : FT} {x : Int32} (h : ∀ k, k < 8 → ¬ F 119 k = x) : mIn F x = -1 := by
  rcases lastW_spec (fun k => F 119 k = x) 8 with ⟨h1, -⟩ | ⟨j, h1, h2, -, -⟩
  · exact h1
  · exact absurd h2 (h j h1)
theorem mIn_no {F : FT} {x : Int32} (h : mIn F x = -1) {k : Nat} (hk : k < 8) : ¬ F 119 k = x := by
  rcases lastW_spec (fun k => F 119 k = x) 8 with ⟨-, h2⟩ | ⟨j, h1, -, h3, -⟩
  · exact h2 k hk
  · exact absurd (h3.symm.trans h) (nI_nm1 (by omega))
theorem nx_ne {c d : Nat} (hd : d < 8) (h : cin c d) (g : rin c d) : ¬ nx c d = c := by
  intro e
  unfold nx at e
  have h1 := h.1; have h2 := h.2; have g1 := g.1; have g2 := g.2
  have e1 : ex d = 1 := by omega
  have e2 : ey d = 1 := by omega
  have : d = 0 ∨ d = 1 ∨ d = 2 ∨ d = 3 ∨ d = 4 ∨ d = 5 ∨ d = 6 ∨ d = 7 := by omega
  rcases this with rfl | rfl | rfl | rfl | rfl | rfl | rfl | rfl <;> first | exact absurd e1 (by decide) | exact absurd e2 (by decide)
/-- what the class does with a ball -/
def cOut (A : FT) (b c d : Nat) : FT := u2 (u2 A 120 b (nI (bnc c d))) 121 b (A 121 b - nI 1)
def cMeet (A : FT) (b o d : Nat) : FT :=
  u2 (u2 (u2 (u2 (u2 A 120 o (nI d)) 121 b (A 121 b - (A 121 b + nI 1) / nI 2)) 121 o (u2 A 121 b (A 121 b - (A 121 b + nI 1) / nI 2) 121 o + (A 121 b + nI 1) / nI 2)) 23 0 (A 23 0 + nI 1)) 22 0 (if b = 0 ∧ A 22 0 = -1 then nI o else A 22 0)
def cMv (A : FT) (b y : Nat) : FT := u2 (u2 (u2 A 121 b (A 121 b - nI 1)) 122 b (b2 (pkN y))) 119 b (if pkN y then -1 else nI y)
def cMove (k : Nat) (A : FT) (b x y : Nat) : FT := if k = 0 then (if pkN y then u2 (cMv A b y) 123 x (nI 0) else u2 (u2 (cMv A b y) 123 x (nI 0)) 123 y (nI (b + 1))) else cMv A b y
def cAct (k : Nat) (A F : FT) (b c d : Nat) : FT := if cin c d ∧ rin c d then (if mIn F (nI (nx c d)) = -1 then cMove k A b c (nx c d) else cMeet A b (mIn F (nI (nx c d))).toNatClampNeg d) else cOut A b c d
theorem u2_e {F : FT} {s j : Nat} {v : Int32} : u2 F s j v s j = v := if_pos ⟨rfl, rfl⟩
theorem u2_s {F : FT} {s j s' j' : Nat} {v : Int32} (h : s' ≠ s) : u2 F s j v s' j' = F s' j' := if_neg (fun g => h g.1)
theorem u2_j {F : FT} {s j s' j' : Nat} {v : Int32} (h : j' ≠ j) : u2 F s j v s' j' = F s' j' := if_neg (fun g => h g.2)
theorem mIn_c {F F' : FT} {x : Int32} (h : ∀ k, k < 8 → F' 119 k = F 119 k) : mIn F' x = mIn F x := lastW_congr (fun j hj => by rw [h j hj])
theorem JV.o {F F' : FT} (h : JV F) (h1 : ∀ k, k < 8 → F' 119 k = F 119 k) (h2 : PV F') (h3 : MV F') (h4 : F' 24 0 = F 24 0) : JV F' := by
  refine ⟨h2, fun i j hi hj => ?_, h3, fun k hk => ?_⟩
  · rw [h1 i hi, h1 j hj]
    exact h.2.1 i j hi hj
  · rw [h1 k hk]
    unfold dB
    rw [h4]
    exact h.2.2.2 k hk
theorem RB_out {c : Nat} {A F : FT} {b x d : Nat} (h : RB c A F) : RB c (cOut A b x d) (mOut F b x d) := by
  refine ⟨fun j hj => ?_, h.2.1, h.2.2.1, fun hc y hy => (h.2.2.2 hc y hy).trans rfl⟩
  obtain ⟨h1, h2, h3, h4⟩ := h.1 j hj
  have hb : j = b → A 121 b = F 121 b := fun e => by rw [← e]; exact h3
  unfold cOut mOut
  refine ⟨h1, ?_, ?_, h4⟩
  · by_cases e : j = b
    · subst e
      rw [u2_s (by decide), u2_e, u2_s (by decide), u2_e]
    · rw [u2_j e, u2_j e, u2_j e, u2_j e, u2_j e]; exact h2
  · by_cases e : j = b
    · subst e
      rw [u2_e, u2_e, h3]
    · rw [u2_j e, u2_j e, u2_j e, u2_j e, u2_j e]; exact h3
theorem JV_out {F : FT} {b x d : Nat} (h : JV F) (hd : d < 8) : JV (mOut F b x d) :=
  h.o (fun k _ => rfl) (((h.1.way (bw1_lt hd)).way (bnc_lt hd)).o ⟨by decide, by decide⟩) h.2.2.1 rfl
theorem MV_m {F : FT} {b o : Nat} (h : MV F) : (if b = 0 ∧ F 22 0 = -1 then nI o else F 22 0) = (if b = 0 ∧ ¬ 0 ≤ F 22 0 then nI o else F 22 0) := by
  rcases h with e | ⟨x, hx, e⟩
  · rw [e]
    by_cases hb : b = 0
    · rw [if_pos ⟨hb, rfl⟩, if_pos ⟨hb, by decide⟩]
    · rw [if_neg (fun g => hb g.1), if_neg (fun g => hb g.1)]
  · rw [e, if_neg (fun g => nI_nm1 (by omega) g.2), if_neg (fun g => g.2 (nI_pos' (by omega)))]
theorem RB_meet {c : Nat} {A F : FT} {b o d : Nat} (h : RB c A F) (hm : MV F) (hb : b < 8) (ho : o < 8) : RB c (cMeet A b o d) (mMeet F b o d) := by
  obtain ⟨-, -, b3, -⟩ := h.1 b hb
  have g : u2 A 121 b (A 121 b - (A 121 b + nI 1) / nI 2) 121 o = u2 F 121 b (F 121 b - (F 121 b + nI 1) / nI 2) 121 o := by
    by_cases e : o = b
    · rw [e, u2_e, u2_e, b3]
    · rw [u2_j e, u2_j e]; exact (h.1 o ho).2.2.1
  refine ⟨fun j hj => ?_, ?_, ?_, fun hc y hy => (h.2.2.2 hc y hy).trans rfl⟩
  · obtain ⟨h1, h2, h3, h4⟩ := h.1 j hj
    unfold cMeet mMeet
    refine ⟨h1, ?_, ?_, h4⟩
    · show u2 A 120 o (nI d) 120 j = u2 F 120 o (nI d) 120 j
      by_cases e : j = o
      · rw [e, u2_e, u2_e]
      · rw [u2_j e, u2_j e]; exact h2
    · rw [g, b3]
      show u2 (u2 A 121 b _) 121 o _ 121 j = u2 (u2 F 121 b _) 121 o _ 121 j
      by_cases e : j = o
      · rw [e, u2_e, u2_e]
      · rw [u2_j e, u2_j e]
        by_cases e2 : j = b
        · rw [e2, u2_e, u2_e]
        · rw [u2_j e2, u2_j e2]; exact h3
  · show (if b = 0 ∧ A 22 0 = -1 then nI o else A 22 0) = (if b = 0 ∧ ¬ 0 ≤ F 22 0 then nI o else F 22 0)
    rw [h.2.1]
    exact MV_m hm
  · show A 23 0 + nI 1 = F 23 0 + nI 1
    rw [h.2.2.1]
theorem JV_meet {F : FT} {b o d : Nat} (h : JV F) (hd : d < 8) (ho : o < 8) : JV (mMeet F b o d) := by
  refine h.o (fun k _ => rfl) ?_ ?_ rfl
  · unfold mMeet
    exact ((((h.1.o ⟨by decide, by decide⟩).o ⟨by decide, by decide⟩).way hd).o ⟨by decide, by decide⟩).o ⟨by decide, by decide⟩
  · show (if b = 0 ∧ ¬ 0 ≤ F 22 0 then nI o else F 22 0) = -1 ∨ ∃ x, x < 8 ∧ (if b = 0 ∧ ¬ 0 ≤ F 22 0 then nI o else F 22 0) = nI x
    split
    · exact Or.inr ⟨o, ho, rfl⟩
    · exact h.2.2.1
theorem mv_at {F : FT} {b y j : Nat} : mMove F b y 119 j = if j = b then (if pkN y then -1 else nI y) else F 119 j := by
  unfold mMove
  by_cases e : j = b
  · subst e
    rw [if_pos rfl]
    split
    · rw [u2_s (by decide), u2_e]
    · rw [u2_s (by decide), u2_e]
  · rw [if_neg e]
    split
    · rw [u2_s (by decide), u2_j e, u2_s (by decide), u2_j e]
    · rw [u2_s (by decide), u2_j e]
theorem mv_way {F : FT} {b y j : Nat} : mMove F b y 120 j = F 120 j := by
  unfold mMove
  split <;> rfl
theorem mv_22 {F : FT} {b y : Nat} : mMove F b y 22 0 = F 22 0 := by
  unfold mMove
  split <;> rfl
theorem mv_23 {F : FT} {b y : Nat} : mMove F b y 23 0 = F 23 0 := by
  unfold mMove
  split <;> rfl
theorem mv_pow {F : FT} {b y j : Nat} : mMove F b y 121 j = if j = b then F 121 b - nI 1 else F 121 j := by
  unfold mMove
  by_cases e : j = b
  · subst e
    rw [if_pos rfl]
    split
    · rw [u2_s (by decide), u2_s (by decide), u2_e]
    · rw [u2_e]
  · rw [if_neg e]
    split
    · rw [u2_s (by decide), u2_s (by decide), u2_j e, u2_s (by decide)]
    · rw [u2_j e, u2_s (by decide)]
theorem mv_dB {F : FT} {b y j : Nat} (hb : b < 8) (hj : j < 8) : dB (mMove F b y) j ↔ (dB F j ∨ (j = b ∧ pkN y)) := by
  unfold mMove
  by_cases e : pkN y
  · rw [if_pos e]
    show ((((F 24 0 ||| (nI 1 <<< (nI b &&& 31))) >>> (nI j &&& 31)) &&& nI 1 = nI 1)) ↔ _
    rw [dbit _ hj hb]
    exact ⟨fun g => g.elim Or.inl (fun h => Or.inr ⟨h, e⟩), fun g => g.elim Or.inl (fun h => Or.inr h.1)⟩
  · rw [if_neg e]
    exact ⟨fun g => Or.inl g, fun g => g.elim id (fun h => absurd h.2 e)⟩
theorem cMv_o {A : FT} {b y s j : Nat} (h : s ≠ 121 ∧ s ≠ 122 ∧ s ≠ 119) : cMv A b y s j = A s j := by
  unfold cMv
  rw [u2_s h.2.2, u2_s h.2.1, u2_s h.1]
theorem RB_mv {c : Nat} {A F : FT} {b y : Nat} (h : RB c A F) (hJ : JV F) (hb : b < 8) (h0 : ¬ F 119 b = -1) : ∀ j, j < 8 → cMv A b y 119 j = mMove F b y 119 j ∧ cMv A b y 120 j = mMove F b y 120 j ∧ cMv A b y 121 j = mMove F b y 121 j ∧ cMv A b y 122 j = b2 (dB (mMove F b y) j) := by
  intro j hj
  obtain ⟨h1, h2, h3, h4⟩ := h.1 j hj
  rw [mv_at, mv_way, mv_pow, b2_eq (mv_dB hb hj)]
  unfold cMv
  by_cases e : j = b
  · subst e
    rw [if_pos rfl, if_pos rfl, u2_e, u2_s (by decide), u2_s (by decide), u2_s (by decide), u2_s (by decide), u2_s (by decide), u2_e, u2_s (by decide), u2_e, h3]
    refine ⟨rfl, h2, rfl, b2_eq ⟨fun g => Or.inr ⟨rfl, g⟩, fun g => g.elim (fun q => absurd q (hJ.2.2.2 j hj h0)) (fun q => q.2)⟩⟩
  · rw [if_neg e, if_neg e, u2_j e, u2_j e, u2_j e, u2_j e, u2_j e, u2_j e, u2_j e, u2_j e, u2_j e, u2_j e, u2_j e, u2_j e]
    exact ⟨h1, h2, h3, h4.trans (b2_eq ⟨Or.inl, fun g => g.elim id (fun q => absurd q.1 e)⟩)⟩
theorem RB_move {c : Nat} {A F : FT} {b x y : Nat} (h : RB c A F) (hc : c = 0 ∨ c = 4) (hJ : JV F) (hb : b < 8) (hx : F 119 b = nI x) (x1 : x < 128) (y1 : y < 128) (hy : mIn F (nI y) = -1) (hne : ¬ y = x) : RB c (cMove c A b x y) (mMove F b y) := by
  have h0 : ¬ F 119 b = -1 := by rw [hx]; exact nI_nm1 (by omega)
  have hm := RB_mv (y := y) h hJ hb h0
  rcases hc with rfl | rfl
  · unfold cMove
    rw [if_pos rfl]
    have hbd : ∀ z, z < 128 → mIn (mMove F b y) (nI z) = if z = x then -1 else if z = y ∧ ¬ pkN y then nI b else mIn F (nI z) := by
      intro z hz
      by_cases e : z = x
      · rw [if_pos e, e]
        refine mIn_n (fun k hk => ?_)
        rw [mv_at]
        split
        · split
          · exact fun g => nI_nm1 (by omega) g.symm
          · exact fun g => hne ((nI_eq (by omega) (by omega)).mp g)
        · next q => exact fun g => q (hJ.2.1 k b hk hb (g.trans hx.symm) (by rw [g]; exact nI_nm1 (by omega)))
      · rw [if_neg e]
        by_cases e2 : z = y ∧ ¬ pkN y
        · rw [if_pos e2, e2.1]
          rcases lastW_spec (fun k => mMove F b y 119 k = nI y) 8 with ⟨-, g2⟩ | ⟨k, g1, g2, g3, -⟩
          · exact absurd (by rw [mv_at, if_pos rfl, if_neg e2.2]) (g2 b hb)
          · have : k = b := by
              apply Decidable.byContradiction
              intro q
              rw [mv_at, if_neg q] at g2
              exact mIn_no hy g1 g2
            rw [this] at g3
            exact g3
        · rw [if_neg e2]
          refine lastW_congr (fun k hk => ?_)
          show mMove F b y 119 k = nI z ↔ F 119 k = nI z
          rw [mv_at]
          by_cases q : k = b
          · rw [if_pos q, q, hx]
            constructor
            · intro g
              exfalso
              by_cases pq : pkN y
              · rw [if_pos pq] at g
                exact nI_nm1 (by omega) g.symm
              · rw [if_neg pq] at g
                exact e2 ⟨((nI_eq (by omega) (by omega)).mp g).symm, pq⟩
            · intro g
              exact absurd ((nI_eq (by omega) (by omega)).mp g).symm e
          · rw [if_neg q]
    by_cases e : pkN y
    · rw [if_pos e]
      refine ⟨fun j hj => hm j hj, ?_, ?_, fun _ z hz => ?_⟩
      · rw [mv_22]; exact h.2.1
      · rw [mv_23]; exact h.2.2.1
      · rw [hbd z hz]
        by_cases q : z = x
        · rw [if_pos q, q, u2_e]; rfl
        · rw [if_neg q, if_neg (fun g => g.2 e), u2_j q, cMv_o ⟨by decide, by decide, by decide⟩]
          exact h.2.2.2 rfl z hz
    · rw [if_neg e]
      refine ⟨fun j hj => hm j hj, ?_, ?_, fun _ z hz => ?_⟩
      · rw [mv_22]; exact h.2.1
      · rw [mv_23]; exact h.2.2.1
      · rw [hbd z hz]
        by_cases q2 : z = y
        · rw [if_neg (by omega), if_pos ⟨q2, e⟩, q2, u2_e, nI_add]
        · by_cases q : z = x
          · rw [if_pos q, u2_j q2, q, u2_e]; rfl
          · rw [if_neg q, if_neg (fun g => q2 g.1), u2_j q2, u2_j q, cMv_o ⟨by decide, by decide, by decide⟩]
            exact h.2.2.2 rfl z hz
  · refine ⟨fun j hj => hm j hj, ?_, ?_, fun g => absurd g (by decide)⟩
    · rw [mv_22]; exact h.2.1
    · rw [mv_23]; exact h.2.2.1
theorem JV_move {F : FT} {b y : Nat} (hJ : JV F) (hb : b < 8) (h0 : ¬ F 119 b = -1) (y1 : y < 128) (hy : mIn F (nI y) = -1) : JV (mMove F b y) := by
  refine ⟨?_, fun i j hi hj => ?_, ?_, fun k hk => ?_⟩
  · unfold mMove
    split
    · exact (((hJ.1.at (Or.inr ⟨_, y1, rfl⟩)).o ⟨by decide, by decide⟩).at (Or.inl rfl)).o ⟨by decide, by decide⟩
    · exact (hJ.1.at (Or.inr ⟨_, y1, rfl⟩)).o ⟨by decide, by decide⟩
  · rw [mv_at, mv_at]
    by_cases e1 : i = b <;> by_cases e2 : j = b
    · exact fun _ _ => e1.trans e2.symm
    · rw [if_pos e1, if_neg e2]
      intro g1 g2
      exfalso
      by_cases p : pkN y
      · rw [if_pos p] at g2; exact g2 rfl
      · rw [if_neg p] at g1
        exact mIn_no hy hj g1.symm
    · rw [if_neg e1, if_pos e2]
      intro g1 g2
      exfalso
      by_cases p : pkN y
      · rw [if_pos p] at g1; exact g2 g1
      · rw [if_neg p] at g1
        exact mIn_no hy hi g1
    · rw [if_neg e1, if_neg e2]
      exact hJ.2.1 i j hi hj
  · unfold MV
    rw [mv_22]
    exact hJ.2.2.1
  · rw [mv_at, mv_dB hb hk]
    by_cases e : k = b
    · rw [if_pos e]
      intro g q
      have np : ¬ pkN y := fun p => by rw [if_pos p] at g; exact g rfl
      exact q.elim (fun r => hJ.2.2.2 k hk (by rw [e]; exact h0) r) (fun r => np r.2)
    · rw [if_neg e]
      exact fun g q => q.elim (hJ.2.2.2 k hk g) (fun r => e r.1)
theorem RB_act {c : Nat} {A F : FT} {b x d : Nat} (h : RB c A F) (hc : c = 0 ∨ c = 4) (hJ : JV F) (hb : b < 8) (hx : F 119 b = nI x) (x1 : x < 128) (d8 : d < 8) : RB c (cAct c A F b x d) (mRolls F b x d) ∧ JV (mRolls F b x d) := by
  have h0 : ¬ F 119 b = -1 := by rw [hx]; exact nI_nm1 (by omega)
  unfold cAct mRolls
  by_cases e : cin x d ∧ rin x d
  · rw [if_pos e, if_pos e]
    have y1 := nx_lt e.1 e.2
    by_cases g : mIn F (nI (nx x d)) = -1
    · rw [if_pos g, if_pos g]
      exact ⟨RB_move h hc hJ hb hx x1 y1 g (nx_ne d8 e.1 e.2), JV_move hJ hb h0 y1 g⟩
    · rw [if_neg g, if_neg g]
      obtain ⟨o, ho, eo⟩ := mIn_nn g
      rw [eo, nI_clamp (by omega)]
      exact ⟨RB_meet h hJ.2.2.1 hb ho, JV_meet hJ d8 ho⟩
  · rw [if_neg e, if_neg e]
    exact ⟨RB_out h, JV_out hJ d8⟩
