-- ===== the class: static arrays, cells of a bed =====
def pkA : Nat → Nat := fun j => match j with
  | 0 => 0
  | 1 => 7
  | 2 => 15
  | 3 => 112
  | 4 => 119
  | _ => 127
/-- what the class's static arrays hold -/
def GS (Γ : GTy) : Prop := ((gt Γ 0).2.1 = 8 ∧ ∀ j, j < 8 → (gt Γ 0).2.2 j = nI (spN j)) ∧ ((gt Γ 1).2.1 = 6 ∧ ∀ j, j < 6 → (gt Γ 1).2.2 j = nI (pkA j)) ∧ ((gt Γ 2).2.1 = 8 ∧ ∀ j, j < 8 → (gt Γ 2).2.2 j = nI (ex j) - nI 1) ∧ ((gt Γ 3).2.1 = 8 ∧ ∀ j, j < 8 → (gt Γ 3).2.2 j = nI (ey j) - nI 1)
theorem pk_iff : ∀ c, c < 128 → (pkN c ↔ ∃ i, i < 6 ∧ pkA i = c) := by decide +kernel
theorem pkA_lt (j : Nat) : pkA j < 128 := by unfold pkA; split <;> decide
section GC
variable {Γ : GTy} {μ : MTy} {R : Room} {W : WTy} {k : Nat × Nat} {pc : Nat} {L : List (Option Value)} {st : List Value} {Y : HS}
theorem G_saldv {i j : Nat} {x v : Int32} (hv : (gt Γ i).2.2 j = v) (hi : i < 5) (hx : x = nI j) (hj : j < (gt Γ i).2.1) (h2 : j < 2 ^ 31) (hd : decode (mC μ) pc = .ok (.iaload, 1)) (kk : G Γ μ R W k (pc + 1) L (.int v :: st) Y) : G Γ μ R W k pc L (.int x :: .ref (sid i) :: st) Y :=
  G_sald hi hx hj h2 hd (by rw [hv]; exact kk)
end GC
-- ===== the class: a roll: its scalars and arrays as A slot index: 119 cells, 120 directions, 121 forces, 122 hasDropped, 123 board; 23 meetings, 22 firstMet =====
def wB (c q b : Nat) (Y : HS) (A : FT) : HS := (Y.1, (fun c' k a => if c' = c ∧ a = q ∧ (k = 4 ∨ k = 5) then A (27 - k) 0 else xI Y c' k a, xR Y), (xn Y, fun a i => if b + 119 ≤ a ∧ a ≤ b + 123 ∧ (c = 0 ∨ a ≤ b + 122) then A (a - b) i else xA Y a i, xJ Y, xP Y))
def bS : Nat → Nat := fun k => match k with
  | 0 => 119
  | 1 => 120
  | 2 => 121
  | 3 => 122
  | _ => 123
def bK : Nat → Nat := fun k => if k = 3 then 11 else 10
def bL : Nat → Nat := fun k => if k = 6 then 128 else 8
/-- the roll q, of kind c, stands -/
def RS (c q b : Nat) (Y : HS) : Prop := xK Y q = c ∧ (c = 0 ∨ c = 4) ∧ ∀ k, k < nf c → rf c k = true → xR Y c k q = some (b + bS k) ∧ xK Y (b + bS k) = bK k ∧ xn Y (b + bS k) = bL k
theorem wB_I {c q b : Nat} {Y : HS} {A : FT} {k : Nat} (h : k = 4 ∨ k = 5) : xI (wB c q b Y A) c k q = A (27 - k) 0 := if_pos ⟨rfl, rfl, h⟩
theorem wB_A {c q b : Nat} {Y : HS} {A : FT} {s j : Nat} (h : 119 ≤ s ∧ s ≤ 123 ∧ (c = 0 ∨ s ≤ 122)) : xA (wB c q b Y A) (b + s) j = A s j := by
  show (if b + 119 ≤ b + s ∧ b + s ≤ b + 123 ∧ (c = 0 ∨ b + s ≤ b + 122) then A (b + s - b) j else _) = _
  rw [if_pos (by omega), show b + s - b = s by omega]
theorem wB_sI {c q b : Nat} {Y : HS} {A : FT} {k : Nat} {v : Int32} (h : k = 4 ∨ k = 5) : sI (wB c q b Y A) c k q v = wB c q b Y (u2 A (27 - k) 0 v) := by
  have h1 : u3 (xI (wB c q b Y A)) c k q v = (fun c' k' a' => if c' = c ∧ a' = q ∧ (k' = 4 ∨ k' = 5) then u2 A (27 - k) 0 v (27 - k') 0 else xI Y c' k' a') := by
    funext c' k' a'
    show (if c' = c ∧ k' = k ∧ a' = q then v else if c' = c ∧ a' = q ∧ (k' = 4 ∨ k' = 5) then A (27 - k') 0 else xI Y c' k' a') = _
    simp only [u2]
    by_cases e : c' = c ∧ a' = q ∧ (k' = 4 ∨ k' = 5)
    · obtain ⟨rfl, rfl, e⟩ := e
      by_cases e2 : k' = k
      · subst e2
        rw [if_pos ⟨rfl, rfl, rfl⟩, if_pos ⟨rfl, rfl, e⟩]
        simp
      · rw [if_neg (fun g => e2 g.2.1), if_pos ⟨rfl, rfl, e⟩, if_pos ⟨rfl, rfl, e⟩, if_neg (fun g => e2 (by omega))]
    · rw [if_neg e, if_neg e, if_neg (fun hh => e ⟨hh.1, hh.2.2, by rw [hh.2.1]; exact h⟩)]
  have h2 : (fun a i => if b + 119 ≤ a ∧ a ≤ b + 123 ∧ (c = 0 ∨ a ≤ b + 122) then A (a - b) i else xA Y a i) = (fun a i => if b + 119 ≤ a ∧ a ≤ b + 123 ∧ (c = 0 ∨ a ≤ b + 122) then u2 A (27 - k) 0 v (a - b) i else xA Y a i) := by
    funext a i
    split
    · next hh =>
      have : ¬ (a - b = 27 - k ∧ i = 0) := fun g => by omega
      simp only [u2, if_neg this]
    · rfl
  show (Y.1, (u3 (xI (wB c q b Y A)) c k q v, xR Y), (xn Y, (fun a i => if b + 119 ≤ a ∧ a ≤ b + 123 ∧ (c = 0 ∨ a ≤ b + 122) then A (a - b) i else xA Y a i), xJ Y, xP Y)) = _
  rw [h1, h2]
  rfl
theorem wB_sA {c q b : Nat} {Y : HS} {A : FT} {s j : Nat} {v : Int32} (h : 119 ≤ s ∧ s ≤ 123 ∧ (c = 0 ∨ s ≤ 122)) : sA (wB c q b Y A) (b + s) j v = wB c q b Y (u2 A s j v) := by
  have h1 : (fun c' k' a' => if c' = c ∧ a' = q ∧ (k' = 4 ∨ k' = 5) then A (27 - k') 0 else xI Y c' k' a') = (fun c' k' a' => if c' = c ∧ a' = q ∧ (k' = 4 ∨ k' = 5) then u2 A s j v (27 - k') 0 else xI Y c' k' a') := by
    funext c' k' a'
    split
    · next hh =>
      have : ¬ (27 - k' = s ∧ 0 = j) := fun g => by omega
      simp only [u2, if_neg this]
    · rfl
  have h2 : u2 (xA (wB c q b Y A)) (b + s) j v = (fun a i => if b + 119 ≤ a ∧ a ≤ b + 123 ∧ (c = 0 ∨ a ≤ b + 122) then u2 A s j v (a - b) i else xA Y a i) := by
    funext a i
    show (if a = b + s ∧ i = j then v else if b + 119 ≤ a ∧ a ≤ b + 123 ∧ (c = 0 ∨ a ≤ b + 122) then A (a - b) i else xA Y a i) = _
    simp only [u2]
    by_cases e : b + 119 ≤ a ∧ a ≤ b + 123 ∧ (c = 0 ∨ a ≤ b + 122)
    · by_cases e2 : a = b + s
      · subst e2
        rw [if_pos e, if_pos e, show b + s - b = s by omega]
        simp
      · rw [if_neg (fun g => e2 g.1), if_pos e, if_pos e, if_neg (fun g => e2 (by omega))]
    · rw [if_neg e, if_neg e, if_neg (fun g => e (by omega))]
  show (Y.1, ((fun c' k' a' => if c' = c ∧ a' = q ∧ (k' = 4 ∨ k' = 5) then A (27 - k') 0 else xI Y c' k' a'), xR Y), (xn Y, u2 (xA (wB c q b Y A)) (b + s) j v, xJ Y, xP Y)) = _
  rw [h1, h2]
  rfl
theorem bS_ok {c k : Nat} (hc : c = 0 ∨ c = 4) (hk : k < nf c) (hr : rf c k = true) : 119 ≤ bS k ∧ bS k ≤ 123 ∧ (c = 0 ∨ bS k ≤ 122) := by
  rcases hc with rfl | rfl
  · have : bS k ≤ 123 ∧ 119 ≤ bS k := by unfold bS; split <;> decide
    omega
  · have h6 : k < 6 := hk
    have : k = 0 ∨ k = 1 ∨ k = 2 ∨ k = 3 ∨ k = 4 ∨ k = 5 := by omega
    rcases this with rfl | rfl | rfl | rfl | rfl | rfl <;> first | decide | exact absurd hr (by decide)
section GB2
variable {Γ : GTy} {μ : MTy} {R : Room} {W : WTy} {k : Nat × Nat} {pc : Nat} {L : List (Option Value)} {st : List Value} {Y : HS} {A : FT} {c q b : Nat}
theorem B_get {idx kk : Nat} (hS : RS c q b Y) (hF : FL (mN μ).cls idx c kk) (h4 : kk = 4 ∨ kk = 5) (hd : decode (mC μ) pc = .ok (.getfield idx, 3)) (kt : G Γ μ R W k (pc + 3) L (.int (A (27 - kk) 0) :: st) (wB c q b Y A)) : G Γ μ R W k pc L (.ref q :: st) (wB c q b Y A) := by
  have hr : rf c kk = false := by rcases hS.2.1 with rfl | rfl <;> rcases h4 with rfl | rfl <;> rfl
  refine G_getI hF hS.1 hr hd ?_
  rw [wB_I h4]
  exact kt
theorem B_getv {idx kk : Nat} {v : Int32} (hv : A (27 - kk) 0 = v) (hS : RS c q b Y) (hF : FL (mN μ).cls idx c kk) (h4 : kk = 4 ∨ kk = 5) (hd : decode (mC μ) pc = .ok (.getfield idx, 3)) (kt : G Γ μ R W k (pc + 3) L (.int v :: st) (wB c q b Y A)) : G Γ μ R W k pc L (.ref q :: st) (wB c q b Y A) :=
  B_get hS hF h4 hd (by rw [hv]; exact kt)
theorem B_put {idx kk : Nat} {v : Int32} (hS : RS c q b Y) (hF : FL (mN μ).cls idx c kk) (hW : FW c kk) (h4 : kk = 4 ∨ kk = 5) (hd : decode (mC μ) pc = .ok (.putfield idx, 3)) (kt : G Γ μ R W k (pc + 3) L st (wB c q b Y (u2 A (27 - kk) 0 v))) : G Γ μ R W k pc L (.int v :: .ref q :: st) (wB c q b Y A) := by
  have ht : ft c kk = .int := by rcases hS.2.1 with rfl | rfl <;> rcases h4 with rfl | rfl <;> rfl
  refine G_putI hF hW hS.1 ht hd ?_
  rw [wB_sI h4]
  exact kt
theorem B_arr {idx kk a : Nat} (hS : RS c q b Y) (hF : FL (mN μ).cls idx c kk) (hr : rf c kk = true) (ha : b + bS kk = a) (hd : decode (mC μ) pc = .ok (.getfield idx, 3)) (kt : G Γ μ R W k (pc + 3) L (.ref a :: st) (wB c q b Y A)) : G Γ μ R W k pc L (.ref q :: st) (wB c q b Y A) := by
  have h9 : kk < nf c := by obtain ⟨_, _, _, _, _, h, _⟩ := hF; exact h
  subst ha
  exact G_getS hF hS.1 hr ((hS.2.2 kk h9 hr).1) hd kt
theorem B_ld {kk a j : Nat} {i : Int32} (hS : RS c q b Y) (hr : (Nat.blt kk (nf c) && (rf c kk && Nat.beq (bK kk) 10)) = true) (ha : b + bS kk = a) (hi : i = nI j) (hj : j < bL kk) (hd : decode (mC μ) pc = .ok (.iaload, 1)) (kt : G Γ μ R W k (pc + 1) L (.int (A (bS kk) j) :: st) (wB c q b Y A)) : G Γ μ R W k pc L (.int i :: .ref a :: st) (wB c q b Y A) := by
  subst ha
  simp only [Bool.and_eq_true, Nat.blt_eq] at hr
  obtain ⟨h1, h2, h3⟩ := hS.2.2 kk hr.1 hr.2.1
  have h4 : bL kk < 2 ^ 31 := by unfold bL; split <;> decide
  refine G_iald (j := j) (h2.trans (Nat.eq_of_beq_eq_true hr.2.2)) hi (Nat.lt_of_lt_of_eq hj h3.symm) (Nat.lt_trans hj h4) hd ?_
  rw [wB_A (bS_ok hS.2.1 hr.1 hr.2.1)]
  exact kt
theorem B_ldv {kk a j : Nat} {i v : Int32} (hv : A (bS kk) j = v) (hS : RS c q b Y) (hr : (Nat.blt kk (nf c) && (rf c kk && Nat.beq (bK kk) 10)) = true) (ha : b + bS kk = a) (hi : i = nI j) (hj : j < bL kk) (hd : decode (mC μ) pc = .ok (.iaload, 1)) (kt : G Γ μ R W k (pc + 1) L (.int v :: st) (wB c q b Y A)) : G Γ μ R W k pc L (.int i :: .ref a :: st) (wB c q b Y A) :=
  B_ld hS hr ha hi hj hd (by rw [hv]; exact kt)
theorem B_bld {kk a j : Nat} {i : Int32} (hS : RS c q b Y) (hr : (Nat.blt kk (nf c) && (rf c kk && Nat.beq (bK kk) 11)) = true) (ha : b + bS kk = a) (hi : i = nI j) (hj : j < bL kk) (hd : decode (mC μ) pc = .ok (.baload, 1)) (kt : G Γ μ R W k (pc + 1) L (.int (A (bS kk) j) :: st) (wB c q b Y A)) : G Γ μ R W k pc L (.int i :: .ref a :: st) (wB c q b Y A) := by
  subst ha
  simp only [Bool.and_eq_true, Nat.blt_eq] at hr
  obtain ⟨h1, h2, h3⟩ := hS.2.2 kk hr.1 hr.2.1
  have h4 : bL kk < 2 ^ 31 := by unfold bL; split <;> decide
  refine G_bald (j := j) (h2.trans (Nat.eq_of_beq_eq_true hr.2.2)) hi (Nat.lt_of_lt_of_eq hj h3.symm) (Nat.lt_trans hj h4) hd ?_
  rw [wB_A (bS_ok hS.2.1 hr.1 hr.2.1)]
  exact kt
theorem B_bldv {kk a j : Nat} {i v : Int32} (hv : A (bS kk) j = v) (hS : RS c q b Y) (hr : (Nat.blt kk (nf c) && (rf c kk && Nat.beq (bK kk) 11)) = true) (ha : b + bS kk = a) (hi : i = nI j) (hj : j < bL kk) (hd : decode (mC μ) pc = .ok (.baload, 1)) (kt : G Γ μ R W k (pc + 1) L (.int v :: st) (wB c q b Y A)) : G Γ μ R W k pc L (.int i :: .ref a :: st) (wB c q b Y A) :=
  B_bld hS hr ha hi hj hd (by rw [hv]; exact kt)
theorem B_st {kk a j : Nat} {i v : Int32} (hS : RS c q b Y) (hr : (Nat.blt kk (nf c) && (rf c kk && Nat.beq (bK kk) 10)) = true) (ha : b + bS kk = a) (hi : i = nI j) (hj : j < bL kk) (hd : decode (mC μ) pc = .ok (.iastore, 1)) (kt : G Γ μ R W k (pc + 1) L st (wB c q b Y (u2 A (bS kk) j v))) : G Γ μ R W k pc L (.int v :: .int i :: .ref a :: st) (wB c q b Y A) := by
  subst ha
  simp only [Bool.and_eq_true, Nat.blt_eq] at hr
  obtain ⟨h1, h2, h3⟩ := hS.2.2 kk hr.1 hr.2.1
  have h4 : bL kk < 2 ^ 31 := by unfold bL; split <;> decide
  refine G_iast (j := j) (h2.trans (Nat.eq_of_beq_eq_true hr.2.2)) hi (Nat.lt_of_lt_of_eq hj h3.symm) (Nat.lt_trans hj h4) hd ?_
  rw [wB_sA (bS_ok hS.2.1 hr.1 hr.2.1)]
  exact kt
theorem B_bst {kk a j : Nat} {i v : Int32} (hS : RS c q b Y) (hr : (Nat.blt kk (nf c) && (rf c kk && Nat.beq (bK kk) 11)) = true) (ha : b + bS kk = a) (hi : i = nI j) (hj : j < bL kk) (hv : v = 0 ∨ v = 1) (hd : decode (mC μ) pc = .ok (.bastore, 1)) (kt : G Γ μ R W k (pc + 1) L st (wB c q b Y (u2 A (bS kk) j v))) : G Γ μ R W k pc L (.int v :: .int i :: .ref a :: st) (wB c q b Y A) := by
  subst ha
  simp only [Bool.and_eq_true, Nat.blt_eq] at hr
  obtain ⟨h1, h2, h3⟩ := hS.2.2 kk hr.1 hr.2.1
  have h4 : bL kk < 2 ^ 31 := by unfold bL; split <;> decide
  refine G_bast (j := j) (h2.trans (Nat.eq_of_beq_eq_true hr.2.2)) hi (Nat.lt_of_lt_of_eq hj h3.symm) (Nat.lt_trans hj h4) hv hd ?_
  rw [wB_sA (bS_ok hS.2.1 hr.1 hr.2.1)]
  exact kt
theorem B_len {kk a n : Nat} (hn : bL kk = n) (hS : RS c q b Y) (hr : (Nat.blt kk (nf c) && rf c kk) = true) (ha : b + bS kk = a) (hd : decode (mC μ) pc = .ok (.arraylength, 1)) (kt : G Γ μ R W k (pc + 1) L (.int (nI n) :: st) (wB c q b Y A)) : G Γ μ R W k pc L (.ref a :: st) (wB c q b Y A) := by
  subst ha
  subst hn
  simp only [Bool.and_eq_true, Nat.blt_eq] at hr
  obtain ⟨h1, h2, h3⟩ := hS.2.2 kk hr.1 hr.2
  have h4 : 10 ≤ bK kk ∧ bK kk ≤ 17 := by unfold bK; split <;> decide
  exact G_alen h2 h4 (congrArg nI h3) hd kt
end GB2
