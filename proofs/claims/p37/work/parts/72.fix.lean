-- ===== numbers laid down: what a roll or a call leaves, as one numeral =====
def eI (v : Int32) : Nat := v.toBitVec.toNat
theorem eI_lt (v : Int32) : eI v < 4294967296 := v.toBitVec.isLt
theorem nI_eI (v : Int32) : nI (eI v) = v := by
  refine Int32.toBitVec_inj.mp (BitVec.eq_of_toNat_eq ?_)
  show (BitVec.ofNat 32 v.toBitVec.toNat).toNat = v.toBitVec.toNat
  rw [BitVec.toNat_ofNat, Nat.mod_eq_of_lt v.toBitVec.isLt]
theorem eI_inj {v w : Int32} (h : eI v = eI w) : v = w := by rw [← nI_eI v, h, nI_eI]
def encL (P : FT) : List (Nat × Nat) → Nat
  | [] => 0
  | q :: l => eI (P q.1 q.2) + 4294967296 * encL P l
theorem rd_enc (P : FT) : ∀ (l : List (Nat × Nat)) (p : Nat) (q : Nat × Nat), l[p]? = some q → (encL P l >>> (32 * p)) % 4294967296 = eI (P q.1 q.2)
  | [], p, q, h => by simp at h
  | x :: l, 0, q, h => by
    have e : x = q := Option.some.inj h
    subst e
    show ((eI (P x.1 x.2) + 4294967296 * encL P l) >>> (32 * 0)) % 4294967296 = _
    rw [Nat.mul_zero, Nat.shiftRight_zero, Nat.add_mul_mod_self_left, Nat.mod_eq_of_lt (eI_lt _)]
  | x :: l, p + 1, q, h => by
    have e : 32 * (p + 1) = 32 + 32 * p := by omega
    have e2 : encL P (x :: l) >>> 32 = encL P l := by
      show (eI (P x.1 x.2) + 4294967296 * encL P l) >>> 32 = _
      rw [Nat.shiftRight_eq_div_pow]
      show (eI (P x.1 x.2) + 4294967296 * encL P l) / 4294967296 = _
      rw [Nat.add_mul_div_left _ _ (by decide), Nat.div_eq_of_lt (eI_lt _), Nat.zero_add]
    rw [e, Nat.shiftRight_add, e2]
    exact rd_enc P l p q h
def pL : List (Nat × Nat) := [(119, 0), (119, 1), (119, 2), (119, 3), (119, 4), (119, 5), (119, 6), (119, 7), (120, 0), (120, 1), (120, 2), (120, 3), (120, 4), (120, 5), (120, 6), (120, 7), (121, 0), (121, 1), (121, 2), (121, 3), (121, 4), (121, 5), (121, 6), (121, 7), (22, 0), (23, 0), (24, 0)]
def pP (s j : Nat) : Nat := bif Nat.beq s 119 then j else bif Nat.beq s 120 then 8 + j else bif Nat.beq s 121 then 16 + j else s + 2
def toP (N : Nat) : FT := fun s j => nI ((N >>> (32 * pP s j)) % 4294967296)
/-- the places of a roll -/
def phb (s j : Nat) : Bool := bif Nat.blt s 119 then Nat.blt 21 s && (Nat.blt s 25 && Nat.beq j 0) else Nat.blt s 122 && Nat.blt j 8
theorem phb_c {s j : Nat} (h : phb s j = true) : ((s = 22 ∨ s = 23 ∨ s = 24) ∧ j = 0) ∨ ((s = 119 ∨ s = 120 ∨ s = 121) ∧ j < 8) := by
  unfold phb at h
  cases h1 : Nat.blt s 119 with
  | true =>
    rw [h1] at h
    simp only [cond_true, Bool.and_eq_true] at h
    have a : 22 ≤ s := Nat.le_of_ble_eq_true h.1
    have b : s + 1 ≤ 25 := Nat.le_of_ble_eq_true h.2.1
    have c : j = 0 := Nat.eq_of_beq_eq_true h.2.2
    left; omega
  | false =>
    rw [h1] at h
    simp only [cond_false, Bool.and_eq_true] at h
    have a : s + 1 ≤ 122 := Nat.le_of_ble_eq_true h.1
    have b : j + 1 ≤ 8 := Nat.le_of_ble_eq_true h.2
    have c : ¬ s + 1 ≤ 119 := fun q => by
      rw [show Nat.blt s 119 = true from Nat.ble_eq_true_of_le q] at h1
      cases h1
    right; omega
theorem ph9 {s j : Nat} (hs : s = 119 ∨ s = 120 ∨ s = 121) (hj : j < 8) : phb s j = true := by
  rcases hs with rfl | rfl | rfl <;> exact Nat.ble_eq_true_of_le hj
theorem pL_at {s j : Nat} (h : phb s j = true) : pL[pP s j]? = some (s, j) := by
  have h1 : ∀ i, i < 8 → pL[pP 119 i]? = some (119, i) := by decide
  have h2 : ∀ i, i < 8 → pL[pP 120 i]? = some (120, i) := by decide
  have h3 : ∀ i, i < 8 → pL[pP 121 i]? = some (121, i) := by decide
  rcases phb_c h with ⟨rfl | rfl | rfl, rfl⟩ | ⟨rfl | rfl | rfl, hj⟩
  · rfl
  · rfl
  · rfl
  · exact h1 j hj
  · exact h2 j hj
  · exact h3 j hj
theorem toP_enc {P : FT} {s j : Nat} (h : phb s j = true) : toP (encL P pL) s j = P s j := by
  unfold toP
  rw [rd_enc P pL _ _ (pL_at h)]
  exact nI_eI _
/-- F with a roll's numbers of P -/
def ovr (P F : FT) : FT := fun s j => bif phb s j then P s j else F s j
theorem ovr_r {P F : FT} {s j : Nat} (h : phb s j = true) : ovr P F s j = P s j := by unfold ovr; rw [h]; rfl
theorem ovr_n {P F : FT} {s j : Nat} (h : phb s j = false) : ovr P F s j = F s j := by unfold ovr; rw [h]; rfl
theorem ovr_eq {P Q F : FT} (h : ∀ s j, phb s j = true → P s j = Q s j) : ovr P F = ovr Q F := by
  funext s j
  cases e : phb s j with
  | true => rw [ovr_r e, ovr_r e, h s j e]
  | false => rw [ovr_n e, ovr_n e]
theorem u2_ovr {P F : FT} {s j : Nat} {v : Int32} (h : phb s j = true) : u2 (ovr P F) s j v = ovr (u2 P s j v) F := by
  funext a b
  by_cases e : a = s ∧ b = j
  · obtain ⟨rfl, rfl⟩ := e
    rw [ovr_r h]
    show (if a = a ∧ b = b then v else _) = (if a = a ∧ b = b then v else _)
    rw [if_pos ⟨rfl, rfl⟩, if_pos ⟨rfl, rfl⟩]
  · show (if a = s ∧ b = j then v else ovr P F a b) = _
    rw [if_neg e]
    cases q : phb a b with
    | true =>
      rw [ovr_r q, ovr_r q]
      show _ = (if a = s ∧ b = j then v else P a b)
      rw [if_neg e]
    | false => rw [ovr_n q, ovr_n q]
theorem mIn_ovr {P F : FT} {x : Int32} : mIn (ovr P F) x = mIn P x := lastW_congr (fun j hj => by rw [ovr_r (ph9 (Or.inl rfl) hj)])
theorem mOut_ovr {P F : FT} {b c d : Nat} (hb : b < 8) : mOut (ovr P F) b c d = ovr (mOut P b c d) F := by
  have p0 : phb 120 b = true := ph9 (Or.inr (Or.inl rfl)) hb
  have p1 : phb 121 b = true := ph9 (Or.inr (Or.inr rfl)) hb
  unfold mOut
  rw [ovr_r p1, u2_ovr p0, u2_ovr p0, u2_ovr p1]
theorem mMeet_ovr {P F : FT} {b o d : Nat} (hb : b < 8) (ho : o < 8) : mMeet (ovr P F) b o d = ovr (mMeet P b o d) F := by
  have p1 : phb 121 b = true := ph9 (Or.inr (Or.inr rfl)) hb
  have p2 : phb 121 o = true := ph9 (Or.inr (Or.inr rfl)) ho
  have p3 : phb 120 o = true := ph9 (Or.inr (Or.inl rfl)) ho
  unfold mMeet
  rw [ovr_r p1, u2_ovr p1, ovr_r p2, u2_ovr p2, u2_ovr p3, u2_ovr (show phb 23 0 = true from rfl), u2_ovr (show phb 22 0 = true from rfl)]
  rfl
theorem mMove_ovr {P F : FT} {b x : Nat} (hb : b < 8) : mMove (ovr P F) b x = ovr (mMove P b x) F := by
  have p0 : phb 119 b = true := ph9 (Or.inl rfl) hb
  have p1 : phb 121 b = true := ph9 (Or.inr (Or.inr rfl)) hb
  unfold mMove
  by_cases e : pkN x
  · rw [if_pos e, if_pos e, ovr_r p1, u2_ovr p0, u2_ovr p1, u2_ovr p0, u2_ovr (show phb 24 0 = true from rfl)]
    rfl
  · rw [if_neg e, if_neg e, ovr_r p1, u2_ovr p0, u2_ovr p1]
theorem mRolls_ovr {P F : FT} {b c d : Nat} (hb : b < 8) : mRolls (ovr P F) b c d = ovr (mRolls P b c d) F := by
  unfold mRolls
  by_cases e : cin c d ∧ rin c d
  · rw [if_pos e, if_pos e, mIn_ovr]
    by_cases w : mIn P (nI (nx c d)) = -1
    · rw [if_pos w, if_pos w]
      exact mMove_ovr hb
    · rw [if_neg w, if_neg w]
      obtain ⟨j, hj, -, h3⟩ := lastW_yes w
      rw [show mIn P (nI (nx c d)) = nI j from h3, nI_clamp (by omega)]
      exact mMeet_ovr hb hj
  · rw [if_neg e, if_neg e]
    exact mOut_ovr hb
theorem mStep_ovr {P F : FT} {k : Nat} (hk : k < 8) : mStep (ovr P F) k = ovr (mStep P k) F := by
  unfold mStep
  rw [ovr_r (ph9 (Or.inl rfl) hk), ovr_r (ph9 (Or.inr (Or.inl rfl)) hk), ovr_r (ph9 (Or.inr (Or.inr rfl)) hk)]
  by_cases c1 : P 119 k < 0
  · rw [if_pos c1, if_pos c1]
  · rw [if_neg c1, if_neg c1]
    by_cases c2 : P 121 k ≤ 0
    · rw [if_pos c2, if_pos c2]
    · rw [if_neg c2, if_neg c2]
      exact mRolls_ovr hk
/-- k of n, n told first -/
def stri {α : Type} (n : Nat) (k : Nat → α) : α := match n with
  | 0 => k 0
  | m + 1 => k (m + 1)
theorem stri_eq {α : Type} (n : Nat) (k : Nat → α) : stri n k = k n := by cases n <;> rfl
def stZ (N k : Nat) : Nat := if isR (toP N) k then encL (mStep (toP N) k) pL else N
def tkZ (N : Nat) : Nat := stri (stZ N 0) fun a => stri (stZ a 1) fun b => stri (stZ b 2) fun c => stri (stZ c 3) fun d => stri (stZ d 4) fun e => stri (stZ e 5) fun f => stri (stZ f 6) fun g => stZ g 7
def rnR : Nat → Nat → Nat
  | 0, N => N
  | n + 1, N => if anyB (isR (toP N)) 8 = true then stri (tkZ N) (fun M => rnR n M) else N
theorem st_ovr {N k : Nat} {F : FT} (hk : k < 8) : mStep (ovr (toP N) F) k = ovr (toP (stZ N k)) F := by
  rw [mStep_ovr hk]
  unfold stZ
  by_cases e : isR (toP N) k
  · rw [if_pos e]
    exact ovr_eq (fun s j h => (toP_enc h).symm)
  · rw [if_neg e]
    unfold mStep
    by_cases c1 : toP N 119 k < 0
    · rw [if_pos c1]
    · rw [if_neg c1]
      by_cases c2 : toP N 121 k ≤ 0
      · rw [if_pos c2]
      · exact absurd ⟨c1, c2⟩ e
theorem tk_ovr {N : Nat} {F : FT} : mTick (ovr (toP N) F) 8 = ovr (toP (tkZ N)) F := by
  unfold tkZ
  rw [stri_eq, stri_eq, stri_eq, stri_eq, stri_eq, stri_eq, stri_eq]
  show mStep (mStep (mStep (mStep (mStep (mStep (mStep (mStep (ovr (toP N) F) 0) 1) 2) 3) 4) 5) 6) 7 = _
  rw [st_ovr (by decide), st_ovr (by decide), st_ovr (by decide), st_ovr (by decide), st_ovr (by decide), st_ovr (by decide), st_ovr (by decide), st_ovr (by decide)]
theorem rn_ovr : ∀ (n N : Nat) (F : FT), mRun (ovr (toP N) F) n = ovr (toP (rnR n N)) F
  | 0, N, F => rfl
  | n + 1, N, F => by
    show (if anyB (isR (ovr (toP N) F)) 8 = true then mRun (mTick (ovr (toP N) F) 8) n else ovr (toP N) F) = ovr (toP (if anyB (isR (toP N)) 8 = true then stri (tkZ N) (fun M => rnR n M) else N)) F
    have e : anyB (isR (ovr (toP N) F)) 8 = anyB (isR (toP N)) 8 := anyB_congr (fun j hj => by
      show (¬ ovr (toP N) F 119 j < 0 ∧ ¬ ovr (toP N) F 121 j ≤ 0) ↔ _
      rw [ovr_r (ph9 (Or.inl rfl) hj), ovr_r (ph9 (Or.inr (Or.inr rfl)) hj)])
    rw [e]
    by_cases c : anyB (isR (toP N)) 8 = true
    · rw [if_pos c, if_pos c, tk_ovr, stri_eq]
      exact rn_ovr n (tkZ N) F
    · rw [if_neg c, if_neg c]
theorem mS0_o {F : FT} {f d s j : Nat} {p : Int32} (h : phb s j = false) : mS0 F f d p s j = F s j := by
  have ne : ∀ a b, phb a b = true → ¬ (s = a ∧ j = b) := fun a b q e => by rw [e.1, e.2, q] at h; cases h
  unfold mS0
  show (if s = 24 ∧ j = 0 then _ else if s = 23 ∧ j = 0 then _ else if s = 22 ∧ j = 0 then _ else if s = 121 ∧ j = 0 then _ else if s = 120 ∧ j = 0 then _ else iF F f 8 s j) = F s j
  rw [if_neg (ne 24 0 rfl), if_neg (ne 23 0 rfl), if_neg (ne 22 0 rfl), if_neg (ne 121 0 rfl), if_neg (ne 120 0 rfl)]
  unfold iF
  by_cases hj : j < 8
  · rw [if_pos hj, if_neg (fun e => ne 119 j (ph9 (Or.inl rfl) hj) ⟨e, rfl⟩), if_neg (fun e => by
      rcases e with e | e
      · exact ne 120 j (ph9 (Or.inr (Or.inl rfl)) hj) ⟨e, rfl⟩
      · exact ne 121 j (ph9 (Or.inr (Or.inr rfl)) hj) ⟨e, rfl⟩)]
  · rw [if_neg hj]
theorem shot_Z {F : FT} {f d : Nat} {p : Int32} {N : Nat} (h : rnR 300 (encL (mS0 F f d p) pL) = N) : mShot F f d p = ovr (toP N) F := by
  subst h
  have e : mS0 F f d p = ovr (toP (encL (mS0 F f d p) pL)) F := by
    funext s j
    cases q : phb s j with
    | true => rw [ovr_r q, toP_enc q]
    | false => rw [ovr_n q, mS0_o q]
  show mRun (mS0 F f d p) 300 = _
  rw [← rn_ovr, ← e]
-- ---- all the numbers of a hall
def dF (v : Nat) : Int32 := bif Nat.beq v 65535 then -1 else nI v
/-- where a number lies -/
def ps (s j : Nat) : Nat := bif Nat.beq s 118 then 54 + 17 * (j / 8) + j % 8 else bif Nat.beq s 111 then 45 + 17 * (j / 2) + j % 2 else bif Nat.beq s 115 then 50 + 17 * (j / 2) + j % 2 else bif Nat.beq s 112 then 47 + 17 * j else bif Nat.beq s 113 then 48 + 17 * j else bif Nat.beq s 114 then 49 + 17 * j else bif Nat.beq s 116 then 52 + 17 * j else bif Nat.beq s 117 then 53 + 17 * j else bif Nat.beq s 102 then 3 + j else bif Nat.beq s 103 then 7 + j else bif Nat.beq s 104 then 11 + j else bif Nat.beq s 105 then 15 + j else bif Nat.beq s 106 then 19 + j else bif Nat.beq s 107 then 27 + j else bif Nat.beq s 108 then 33 + j else bif Nat.beq s 109 then 39 + j else bif Nat.beq s 0 then 0 else bif Nat.beq s 1 then 1 else bif Nat.beq s 10 then 2 else 100000
def toF (N : Nat) : FT := fun s j => dF ((N >>> (16 * ps s j)) % 65536)
def allN (p : Nat → Bool) : Nat → Bool
  | 0 => true
  | n + 1 => p n && allN p n
theorem allN_at {p : Nat → Bool} : ∀ {n j : Nat}, allN p n = true → j < n → p j = true
  | n + 1, j, h, hj => by
    have h2 : p n = true ∧ allN p n = true := by simpa [allN] using h
    by_cases e : j = n
    · rw [e]; exact h2.1
    · exact allN_at h2.2 (by omega)
def sL : List (Nat × Nat) := [(0, 1), (1, 1), (10, 1), (102, 4), (103, 4), (104, 4), (105, 4), (106, 8), (107, 6), (108, 6), (109, 6), (111, 40), (112, 20), (113, 20), (114, 20), (115, 40), (116, 20), (117, 20), (118, 160)]
def chk (F G : FT) : Bool := sL.all (fun q => allN (fun j => Nat.beq (eI (F q.1 j)) (eI (G q.1 j))) q.2)
theorem chk_at {F G : FT} (h : chk F G = true) {s c j : Nat} (hm : (s, c) ∈ sL) (hj : j < c) : G s j = F s j := by
  have h1 := allN_at (List.all_eq_true.mp h _ hm) hj
  exact (eI_inj (Nat.eq_of_beq_eq_true h1)).symm
theorem toF_0 {N : Nat} (hN : Nat.blt N (2 ^ 6160) = true) {s j : Nat} (h : 385 ≤ ps s j) : toF N s j = nI 0 := by
  have hN2 : N < 2 ^ 6160 := Nat.le_of_ble_eq_true hN
  have e : N >>> (16 * ps s j) = 0 := by
    rw [Nat.shiftRight_eq_div_pow]
    exact Nat.div_eq_of_lt (Nat.lt_of_lt_of_le hN2 (Nat.pow_le_pow_right (by decide) (by omega)))
  unfold toF
  rw [e]
  rfl
theorem CI_frz {n N : Nat} {Z : HS} {F A : FT} {g : GN} (h : CI n Z F g A) (hc : chk F (toF N) = true) (hN : Nat.blt N (2 ^ 6160) = true) : CI n Z (toF N) g A := by
  obtain ⟨q1, ⟨⟨q2a, q2b, q2c, q2d, q2e, q2f⟩, q3, q4⟩, ⟨q5, q6, q7⟩, ⟨q8, q9, q10⟩, q11, q12⟩ := h
  have n20 := q2a.2.2
  have e0 : toF N 0 0 = F 0 0 := chk_at hc (c := 1) (by decide) (by decide)
  have e1 : toF N 1 0 = F 1 0 := chk_at hc (c := 1) (by decide) (by decide)
  have e10 : toF N 10 0 = F 10 0 := chk_at hc (c := 1) (by decide) (by decide)
  have e102 : ∀ i, i < 4 → toF N 102 i = F 102 i := fun i hi => chk_at hc (c := 4) (by decide) hi
  have e103 : ∀ i, i < 4 → toF N 103 i = F 103 i := fun i hi => chk_at hc (c := 4) (by decide) hi
  have e104 : ∀ i, i < 4 → toF N 104 i = F 104 i := fun i hi => chk_at hc (c := 4) (by decide) hi
  have e105 : ∀ i, i < 4 → toF N 105 i = F 105 i := fun i hi => chk_at hc (c := 4) (by decide) hi
  have e106 : ∀ i, i < 8 → toF N 106 i = F 106 i := fun i hi => chk_at hc (c := 8) (by decide) hi
  have e107 : ∀ i, i < 6 → toF N 107 i = F 107 i := fun i hi => chk_at hc (c := 6) (by decide) hi
  have e108 : ∀ i, i < 6 → toF N 108 i = F 108 i := fun i hi => chk_at hc (c := 6) (by decide) hi
  have e109 : ∀ i, i < 6 → toF N 109 i = F 109 i := fun i hi => chk_at hc (c := 6) (by decide) hi
  have e111 : ∀ i, i < 40 → toF N 111 i = F 111 i := fun i hi => chk_at hc (c := 40) (by decide) hi
  have e112 : ∀ i, i < 20 → toF N 112 i = F 112 i := fun i hi => chk_at hc (c := 20) (by decide) hi
  have e113 : ∀ i, i < 20 → toF N 113 i = F 113 i := fun i hi => chk_at hc (c := 20) (by decide) hi
  have e114 : ∀ i, i < 20 → toF N 114 i = F 114 i := fun i hi => chk_at hc (c := 20) (by decide) hi
  have e115 : ∀ i, i < 40 → toF N 115 i = F 115 i := fun i hi => chk_at hc (c := 40) (by decide) hi
  have e116 : ∀ i, i < 20 → toF N 116 i = F 116 i := fun i hi => chk_at hc (c := 20) (by decide) hi
  have e117 : ∀ i, i < 20 → toF N 117 i = F 117 i := fun i hi => chk_at hc (c := 20) (by decide) hi
  have e118 : ∀ i, i < 160 → toF N 118 i = F 118 i := fun i hi => chk_at hc (c := 160) (by decide) hi
  have eow : ∀ c, c < 8 → owe (toF N) c = owe F c := fun c hc8 => by
    unfold owe
    rw [e106 c hc8, lastW_congr (q := fun k => F 107 k = nI (c + 1)) (fun j hj => by rw [e107 j hj])]
  have elg : ∀ i, i < 4 → (leag (toF N) g i ↔ leag F g i) := fun i hi => by
    have l := (q2b i hi).2.2.1.2
    unfold leag
    by_cases z : g 1 i = 0
    · rw [z]; exact ⟨fun q => absurd rfl q.1, fun q => absurd rfl q.1⟩
    · rw [e112 _ (by omega)]
  have ewn : ∀ c, wN (toF N) (g 16 0) c = wN F (g 16 0) c := fun c => by
    unfold wN
    exact cnt_congr (fun j hj => by rw [e112 j (by omega), e117 j (by omega)])
  have elow : ∀ f, f < 20 → lowF (toF N) f = lowF F f := fun f hf => lowA_congr (fun k hk => by rw [e118 _ (by omega)])
  refine ⟨q1, ⟨⟨⟨?_, ?_⟩, fun i hi => ?_, fun u hu => ?_, q2d, fun f hf => ?_, fun f hf => ?_⟩, ⟨q3.1, q3.2.1, fun s hs => ?_, fun i hi q => ?_, q3.2.2.2.2⟩, fun c hc8 => ?_⟩, ⟨?_, fun c hc8 => ?_, fun c hc8 => ?_⟩, ⟨fun i hi => ?_, fun u hu => ?_, fun f hf => ?_⟩, q11, q12⟩
  · rw [e0]; exact q2a.1
  · rw [e10]; exact q2a.2
  · rw [e102 i hi, e103 i hi, e104 i hi, e105 i hi]; exact q2b i hi
  · rw [e107 u hu, e108 u hu]; exact q2c u hu
  · have f20 : f < 20 := by omega
    obtain ⟨⟨a1, a2, a3, a4, a5, a6⟩, ⟨b1, b2, b3⟩, c1⟩ := q2e f hf
    refine ⟨⟨?_, ?_, ?_, ?_, ?_, ?_⟩, ⟨fun k hk => ?_, fun i j hi hj => ?_, ?_⟩, ?_⟩
    · rw [e111 _ (by omega)]; exact a1
    · rw [e111 _ (by omega)]; exact a2
    · rw [e112 f f20]; exact a3
    · rw [e114 f f20]; exact a4
    · rw [e116 f f20]; exact a5
    · rw [e117 f f20]; exact a6
    · rw [e118 _ (by omega)]; exact b1 k hk
    · rw [e118 _ (by omega), e118 _ (by omega)]; exact b2 i j hi hj
    · rw [e118 _ (by omega)]; exact b3
    · rw [e113 f f20, e117 f f20, elow f f20]; exact c1
  · by_cases f20 : f < 20
    · rw [e113 f f20, e114 f f20, e116 f f20, e115 _ (by omega), e115 _ (by omega)]; exact q2f f hf
    · refine ⟨toF_0 hN ?_, toF_0 hN ?_, toF_0 hN ?_, toF_0 hN ?_, toF_0 hN ?_⟩
      · show 385 ≤ 48 + 17 * f; omega
      · show 385 ≤ 49 + 17 * f; omega
      · show 385 ≤ 52 + 17 * f; omega
      · show 385 ≤ 50 + 17 * (2 * f / 2) + 2 * f % 2; omega
      · show 385 ≤ 50 + 17 * ((2 * f + 1) / 2) + (2 * f + 1) % 2; omega
  · have := q3.2.2.1 s hs
    refine ⟨this.1, this.2.1, fun q => ⟨(elg _ this.1.2).mpr (this.2.2 q).1, (this.2.2 q).2⟩⟩
  · exact q3.2.2.2.1 i hi ((elg i hi).mp q)
  · rw [eow c hc8]; exact q4 c hc8
  · unfold Zh
    rw [e1]; exact q5
  · rw [eow c hc8]; exact q6 c hc8
  · rw [ewn]; exact q7 c hc8
  · obtain ⟨a1, a2, a3, a4, a5, a6, a7⟩ := q8 i hi
    refine ⟨?_, a2, ?_, a4, a5, fun q => a6 (fun q2 => q ((elg i hi).mpr q2)), fun q => a7 ((elg i hi).mp q)⟩
    · rw [b2_eq (q := F 102 i = 0) (by rw [e102 i hi])]; exact a1
    · rw [e105 i hi]; exact a3
  · rw [e108 u hu, e109 u hu]; exact q9 u hu
  · have f20 : f < 20 := by omega
    have this := q10 f hf
    rw [e111 _ (by omega), e111 _ (by omega), e112 f f20]
    refine ⟨this.1, this.2.1, this.2.2.1, ⟨fun k h1 h2 => ?_, fun j hj => ?_⟩, this.2.2.2.2⟩
    · have hk : k = 6 ∨ k = 7 ∨ k = 8 ∨ k = 9 ∨ k = 10 := by omega
      rw [this.2.2.2.1.1 k h1 h2]
      rcases hk with rfl | rfl | rfl | rfl | rfl
      · exact (e114 f f20).symm
      · exact (e116 f f20).symm
      · exact (e115 (2 * f) (by omega)).symm
      · exact (e115 (2 * f + 1) (by omega)).symm
      · exact (e117 f f20).symm
    · rw [e118 _ (by omega)]; exact this.2.2.2.1.2 j hj
