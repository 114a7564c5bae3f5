-- ===== the model's side: its fields and arrays as F slot index; scalars by slots below 100, arrays by 100 + slot =====
def b2 (p : Prop) [Decidable p] : Int32 := if p then 1 else 0
theorem b2_t {p : Prop} [Decidable p] (h : p) : b2 p = 1 := if_pos h
theorem b2_f {p : Prop} [Decidable p] (h : ¬ p) : b2 p = 0 := if_neg h
theorem b2_or (p : Prop) [Decidable p] : b2 p = 0 ∨ b2 p = 1 := by unfold b2; split <;> simp
theorem b2_eq {p q : Prop} [Decidable p] [Decidable q] (h : p ↔ q) : b2 p = b2 q := by unfold b2; simp [h]
abbrev FT : Type := Nat → Nat → Int32
def wM (Y : HS) (F : FT) : HS := (Y.1, (fun c k a => if c = 9 ∧ a = 900000 ∧ k < 100 then F k 0 else xI Y c k a, xR Y), (xn Y, fun a i => if 1900100 ≤ a then F (a - 1900000) i else xA Y a i, xJ Y, xP Y))
def rF (Y : HS) : FT := fun k j => if k < 100 then xI Y 9 k 900000 else xA Y (1900000 + k) j
theorem wM_rF (Y : HS) : wM Y (rF Y) = Y := by
  have h1 : (fun c k a => if c = 9 ∧ a = 900000 ∧ k < 100 then rF Y k 0 else xI Y c k a) = xI Y := by
    funext c k a
    split
    · next h => obtain ⟨rfl, rfl, h⟩ := h; simp [rF, h]
    · rfl
  have h2 : (fun a i => if 1900100 ≤ a then rF Y (a - 1900000) i else xA Y a i) = xA Y := by
    funext a i
    split
    · next h =>
      have : ¬ a - 1900000 < 100 := by omega
      have e : 1900000 + (a - 1900000) = a := by omega
      simp only [rF, if_neg this, e]
    · rfl
  unfold wM
  rw [h1, h2]
  rfl
theorem wM_wM (Y : HS) (F F' : FT) : wM (wM Y F) F' = wM Y F' := by
  have h1 : (fun c k a => if c = 9 ∧ a = 900000 ∧ k < 100 then F' k 0 else xI (wM Y F) c k a) = (fun c k a => if c = 9 ∧ a = 900000 ∧ k < 100 then F' k 0 else xI Y c k a) := by
    funext c k a
    split
    · rfl
    · next h => show (if c = 9 ∧ a = 900000 ∧ k < 100 then F k 0 else xI Y c k a) = _; rw [if_neg h]
  have h2 : (fun a i => if 1900100 ≤ a then F' (a - 1900000) i else xA (wM Y F) a i) = (fun a i => if 1900100 ≤ a then F' (a - 1900000) i else xA Y a i) := by
    funext a i
    split
    · rfl
    · next h => show (if 1900100 ≤ a then F (a - 1900000) i else xA Y a i) = _; rw [if_neg h]
  unfold wM at h1 h2 ⊢
  simp only [] at h1 h2 ⊢
  show (Y.1, (_, xR Y), (xn Y, _, xJ Y, xP Y)) = _
  rw [h1, h2]
theorem wM_I {Y : HS} {F : FT} {k : Nat} (h : k < 100) : xI (wM Y F) 9 k 900000 = F k 0 := if_pos ⟨rfl, rfl, h⟩
theorem wM_A {Y : HS} {F : FT} {s j : Nat} (h : 100 ≤ s) : xA (wM Y F) (1900000 + s) j = F s j := by
  show (if 1900100 ≤ 1900000 + s then F (1900000 + s - 1900000) j else _) = _
  rw [if_pos (by omega), show 1900000 + s - 1900000 = s by omega]
theorem wM_sI {Y : HS} {F : FT} {k : Nat} {v : Int32} (h : k < 100) : sI (wM Y F) 9 k 900000 v = wM Y (u2 F k 0 v) := by
  have h1 : u3 (xI (wM Y F)) 9 k 900000 v = (fun c' k' a' => if c' = 9 ∧ a' = 900000 ∧ k' < 100 then u2 F k 0 v k' 0 else xI Y c' k' a') := by
    funext c' k' a'
    show (if c' = 9 ∧ k' = k ∧ a' = 900000 then v else if c' = 9 ∧ a' = 900000 ∧ k' < 100 then F k' 0 else xI Y c' k' a') = _
    simp only [u2]
    by_cases e : c' = 9 ∧ a' = 900000 ∧ k' < 100
    · obtain ⟨rfl, rfl, e⟩ := e
      by_cases e2 : k' = k
      · subst e2; simp [e]
      · simp [e2, e]
    · rw [if_neg e, if_neg e, if_neg (fun hh => e ⟨hh.1, hh.2.2, by rw [hh.2.1]; exact h⟩)]
  have h2 : (fun a i => if 1900100 ≤ a then F (a - 1900000) i else xA Y a i) = (fun a i => if 1900100 ≤ a then u2 F k 0 v (a - 1900000) i else xA Y a i) := by
    funext a i
    split
    · next hh =>
      have : ¬ (a - 1900000 = k ∧ i = 0) := fun g => by omega
      simp only [u2, if_neg this]
    · rfl
  show (Y.1, (u3 (xI (wM Y F)) 9 k 900000 v, xR Y), (xn Y, (fun a i => if 1900100 ≤ a then F (a - 1900000) i else xA Y a i), xJ Y, xP Y)) = _
  rw [h1, h2]
  rfl
theorem wM_sA {Y : HS} {F : FT} {s j : Nat} {v : Int32} (h : 100 ≤ s) : sA (wM Y F) (1900000 + s) j v = wM Y (u2 F s j v) := by
  have h1 : (fun c' k' a' => if c' = 9 ∧ a' = 900000 ∧ k' < 100 then F k' 0 else xI Y c' k' a') = (fun c' k' a' => if c' = 9 ∧ a' = 900000 ∧ k' < 100 then u2 F s j v k' 0 else xI Y c' k' a') := by
    funext c' k' a'
    split
    · next hh =>
      have : ¬ (k' = s ∧ 0 = j) := fun g => by omega
      simp only [u2, if_neg this]
    · rfl
  have h2 : u2 (xA (wM Y F)) (1900000 + s) j v = (fun a i => if 1900100 ≤ a then u2 F s j v (a - 1900000) i else xA Y a i) := by
    funext a i
    show (if a = 1900000 + s ∧ i = j then v else if 1900100 ≤ a then F (a - 1900000) i else xA Y a i) = _
    simp only [u2]
    by_cases e : 1900100 ≤ a
    · by_cases e2 : a = 1900000 + s
      · subst e2
        rw [if_pos e, if_pos e, show 1900000 + s - 1900000 = s by omega]
        simp
      · rw [if_neg (fun g => e2 g.1), if_pos e, if_pos e, if_neg (fun g => e2 (by omega))]
    · rw [if_neg e, if_neg e, if_neg (fun g => by omega)]
  show (Y.1, ((fun c' k' a' => if c' = 9 ∧ a' = 900000 ∧ k' < 100 then F k' 0 else xI Y c' k' a'), xR Y), (xn Y, u2 (xA (wM Y F)) (1900000 + s) j v, xJ Y, xP Y)) = _
  rw [h1, h2]
  rfl
def mk9 : Nat → Nat := fun s => if s = 102 ∨ s = 112 ∨ s = 116 then 11 else 10
def ml9 : Nat → Nat := fun s => match s with
  | 102 => 4
  | 103 => 4
  | 104 => 4
  | 105 => 4
  | 106 => 8
  | 107 => 6
  | 108 => 6
  | 109 => 6
  | 111 => 40
  | 112 => 20
  | 113 => 20
  | 114 => 20
  | 115 => 40
  | 116 => 20
  | 117 => 20
  | 118 => 160
  | 119 => 8
  | 120 => 8
  | 121 => 8
  | _ => 0
section GM
variable {Γ : GTy} {μ : MTy} {R : Room} {W : WTy} {k : Nat × Nat} {pc : Nat} {L : List (Option Value)} {st : List Value} {Y : HS} {F : FT}
end GM
