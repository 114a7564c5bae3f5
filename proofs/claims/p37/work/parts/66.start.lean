-- ===== what holds at the beginning =====
def Zz (v : Int32) (Z : HS) : Prop := (∀ a i, xA Z a i = 0) ∧ (∀ k, xI Z 9 k 900000 = if k = 1 then v else 0) ∧ (∀ f, f < 1000 → (xK Z (200000 + f) = 99 ∧ xK Z (1200000 + f) = 99) ∧ xK Z (500000 + f) = 99 ∧ xK Z (600000 + f) = 99 ∧ xK Z (300000 + f) = 99)
def okq (q : Nat) : Prop := (q < 200000 ∨ 201000 ≤ q) ∧ (q < 1200000 ∨ 1201000 ≤ q) ∧ (q < 500000 ∨ 501000 ≤ q) ∧ (q < 600000 ∨ 601000 ≤ q) ∧ (q < 300000 ∨ 301000 ≤ q)
theorem zz_nX0 {v : Int32} {Z : HS} {q kd n : Nat} (h : Zz v Z) (hq : okq q) (hv : v = 0 ∨ q ≠ 900000) : Zz v (nX Z q kd n (fun _ => 0)) := by
  obtain ⟨h1, h2, h3⟩ := h
  obtain ⟨q1, q2, q3, q4, q5⟩ := hq
  refine ⟨fun a i => ?_, fun k => ?_, fun f hf => ?_⟩
  · show va_up (xA Z) q (fun _ => 0) a i = 0
    by_cases e : a = q
    · rw [e, va_up_self]
    · rw [va_up_ne _ _ e]; exact h1 a i
  · show (if 900000 = q then 0 else xI Z 9 k 900000) = _
    by_cases e : 900000 = q
    · rw [if_pos e]
      rcases hv with rfl | hv
      · split <;> rfl
      · exact absurd e.symm hv
    · rw [if_neg e]; exact h2 k
  · have ne : ∀ a, a ≠ q → xK (nX Z q kd n (fun _ => 0)) a = xK Z a := fun a e => va_up_ne _ _ e
    rw [ne _ (by omega), ne _ (by omega), ne _ (by omega), ne _ (by omega), ne _ (by omega)]
    exact h3 f hf
theorem zz_sR {v : Int32} {Z : HS} {c k a : Nat} {w : Option Nat} (h : Zz v Z) : Zz v (sR Z c k a w) := h
theorem zz_sP {v : Int32} {Z : HS} {a i : Nat} {w : Option Nat} (h : Zz v Z) : Zz v (sP Z a i w) := h
theorem zz_sI {v : Int32} {Z : HS} {c k a : Nat} {w : Int32} (h : Zz v Z) (hc : c ≠ 9) : Zz v (sI Z c k a w) := ⟨h.1, fun k' => (xI_sI (fun e => hc e.1.symm)).trans (h.2.1 k'), h.2.2⟩
theorem zz_price {v : Int32} {Z : HS} (h : Zz 0 Z) : Zz v (sI Z 9 1 900000 v) := by
  refine ⟨h.1, fun k => ?_, h.2.2⟩
  by_cases e : k = 1
  · rw [e, if_pos rfl]; exact xI_sIe
  · rw [if_neg e, xI_sI (fun q => e q.2.1), h.2.1 k, if_neg e]
theorem hz_U0 : Zz 0 U0 := ⟨fun _ _ => rfl, fun k => by split <;> rfl, fun _ _ => ⟨⟨rfl, rfl⟩, rfl, rfl, rfl⟩⟩
theorem hz_0 : Zz 0 hS_0 := zz_nX0 hz_U0 (by unfold okq; decide) (Or.inl rfl)
theorem hz_1 : Zz 0 hS_1 := zz_sR (zz_nX0 hz_0 (by unfold okq; decide) (Or.inl rfl))
theorem hz_2 : Zz 0 hS_2 := zz_sR (zz_nX0 hz_1 (by unfold okq; decide) (Or.inl rfl))
theorem hz_3 : Zz 0 hS_3 := zz_sR (zz_nX0 hz_2 (by unfold okq; decide) (Or.inl rfl))
theorem hz_4 : Zz 0 hS_4 := zz_sR (zz_nX0 hz_3 (by unfold okq; decide) (Or.inl rfl))
theorem hz_5 : Zz 0 hS_5 := zz_sR (zz_nX0 hz_4 (by unfold okq; decide) (Or.inl rfl))
theorem hz_6 : Zz 0 hS_6 := zz_sR (zz_nX0 hz_5 (by unfold okq; decide) (Or.inl rfl))
theorem hz_7 : Zz 0 hS_7 := zz_sR (zz_nX0 hz_6 (by unfold okq; decide) (Or.inl rfl))
theorem hz_8 : Zz 0 hS_8 := zz_sR (zz_nX0 hz_7 (by unfold okq; decide) (Or.inl rfl))
theorem hz_9 : Zz 0 hS_9 := zz_nX0 hz_8 (by unfold okq; decide) (Or.inl rfl)
theorem hz_10 : Zz 0 hS_10 := zz_sR (zz_nX0 hz_9 (by unfold okq; decide) (Or.inl rfl))
theorem hz_11 : Zz 0 hS_11 := zz_sR (zz_nX0 hz_10 (by unfold okq; decide) (Or.inl rfl))
theorem hz_12 : Zz 0 hS_12 := zz_sR (zz_nX0 hz_11 (by unfold okq; decide) (Or.inl rfl))
theorem hz_13 : Zz 0 hS_13 := zz_sR (zz_nX0 hz_12 (by unfold okq; decide) (Or.inl rfl))
theorem hz_14 : Zz 0 hS_14 := zz_sR (zz_nX0 hz_13 (by unfold okq; decide) (Or.inl rfl))
theorem hz_15 : Zz 0 hS_15 := zz_sR hz_14
theorem hz_16 : Zz 0 hS_16 := zz_nX0 hz_15 (by unfold okq; decide) (Or.inl rfl)
theorem hz_17 : Zz 0 hS_17 := zz_sR (zz_nX0 hz_16 (by unfold okq; decide) (Or.inl rfl))
theorem hz_18 : Zz 0 hS_18 := zz_sR (zz_nX0 hz_17 (by unfold okq; decide) (Or.inl rfl))
theorem hz_19 : Zz 0 hS_19 := zz_sR (zz_nX0 hz_18 (by unfold okq; decide) (Or.inl rfl))
theorem hz_20 : Zz 0 hS_20 := zz_sR (zz_nX0 hz_19 (by unfold okq; decide) (Or.inl rfl))
theorem hz_21 : Zz 0 hS_21 := zz_sR hz_20
theorem hz_22 : Zz 0 hS_22 := zz_sI hz_21 (by decide)
theorem hz_23 : Zz 0 hS_23 := zz_nX0 hz_22 (by unfold okq; decide) (Or.inl rfl)
theorem hz_24 : Zz 0 hS_24 := zz_sP (zz_sI hz_23 (by decide))
theorem hz_25 : Zz 0 hS_25 := zz_nX0 hz_24 (by unfold okq; decide) (Or.inl rfl)
theorem hz_26 : Zz 0 hS_26 := zz_sP (zz_sI hz_25 (by decide))
theorem hz_27 : Zz 0 hS_27 := zz_nX0 hz_26 (by unfold okq; decide) (Or.inl rfl)
theorem hz_28 : Zz 0 hS_28 := zz_sP (zz_sI hz_27 (by decide))
theorem hz_29 : Zz 0 hS_29 := zz_nX0 hz_28 (by unfold okq; decide) (Or.inl rfl)
theorem hz_30 : Zz 0 hS_30 := zz_sP (zz_sI hz_29 (by decide))
theorem hz_31 : Zz 0 hS_31 := zz_nX0 hz_30 (by unfold okq; decide) (Or.inl rfl)
theorem hz_32 : Zz 0 hS_32 := zz_sP hz_31
theorem hz_33 : Zz 0 hS_33 := zz_nX0 hz_32 (by unfold okq; decide) (Or.inl rfl)
theorem hz_34 : Zz 0 hS_34 := zz_sP hz_33
theorem hz_35 : Zz 0 hS_35 := zz_nX0 hz_34 (by unfold okq; decide) (Or.inl rfl)
theorem hz_36 : Zz 0 hS_36 := zz_sP hz_35
theorem hz_37 : Zz 0 hS_37 := zz_nX0 hz_36 (by unfold okq; decide) (Or.inl rfl)
theorem hz_38 : Zz 0 hS_38 := zz_sP hz_37
theorem hz_39 : Zz 0 hS_39 := zz_nX0 hz_38 (by unfold okq; decide) (Or.inl rfl)
theorem hz_40 : Zz 0 hS_40 := zz_sP hz_39
theorem hz_41 : Zz 0 hS_41 := zz_nX0 hz_40 (by unfold okq; decide) (Or.inl rfl)
theorem hz_42 : Zz 0 hS_42 := zz_sP hz_41
def hV : HS := hS_42
def F0m : FT := fun s _ => if s = 1 then nI 6 else 0
def g0m : GN := fun _ _ => 0
theorem RS_V : RS 0 10 1000010 hV ∧ RS 4 400010 1400010 hV := by unfold RS; decide +kernel
theorem SH_V : SH hV := by
  refine ⟨by decide +kernel, RS_V, by decide +kernel, by decide +kernel, trivial, trivial, trivial⟩
theorem owe_0 : ∀ c, c < 8 → owe F0m c = 0 := by decide +kernel
theorem CI_0 : CI 0 hV F0m g0m (fun _ _ => 0) := by
  refine ⟨SH_V, ⟨⟨⟨⟨rfl, by decide⟩, rfl, by decide⟩, fun i hi => ⟨Or.inl rfl, ⟨rfl, Nat.zero_le _⟩, ⟨rfl, Nat.zero_le _⟩, ⟨rfl, Nat.zero_le _⟩, fun _ => rfl, fun q => absurd rfl q⟩, fun u hu => ⟨⟨rfl, Nat.zero_le _⟩, 0, by decide, rfl⟩, fun u v _ _ _ q => absurd rfl q, fun f hf => absurd hf (Nat.not_lt_zero f), fun f hf => ⟨rfl, rfl, rfl, rfl, rfl⟩⟩, ⟨fun j hj => absurd hj (Nat.not_lt_zero j), fun i _ q => absurd rfl q, fun s hs => absurd hs (Nat.not_lt_zero s), fun i _ q => absurd rfl q.1, fun u _ q => absurd rfl q⟩, fun c hc => ?_⟩, ⟨⟨⟨by decide +kernel, by decide +kernel⟩, ⟨by decide +kernel, by decide +kernel⟩, by decide +kernel, by decide +kernel⟩, fun c hc => (hz_42.1 _ _).trans (owe_0 c hc).symm, fun c hc => hz_42.1 _ _⟩, ⟨fun i hi => ?_, fun u hu => ?_, fun f hf => absurd hf (Nat.not_lt_zero f)⟩, ⟨fun j hj => absurd hj (Nat.not_lt_zero j), fun j hj => absurd hj (Nat.not_lt_zero j), fun j hj => absurd hj (Nat.not_lt_zero j)⟩, ⟨fun f _ hf => (hz_42.2.2 f hf).1, fun f _ hf => (hz_42.2.2 f hf).2.1, fun f _ hf => (hz_42.2.2 f hf).2.2.1, fun f _ hf => (hz_42.2.2 f hf).2.2.2⟩, by decide, by decide, by decide, by decide⟩
  · rw [owe_0 c hc]; rfl
  · have e0 : ∀ i, i < 4 → xI hV 7 0 (700000 + i) = 1 := by decide +kernel
    have e1 : ∀ i, i < 4 → xR hV 7 1 (700000 + i) = none ∧ xR hV 7 3 (700000 + i) = none ∧ xR hV 7 4 (700000 + i) = none := by decide +kernel
    exact ⟨(e0 i hi).trans (if_pos rfl).symm, fun _ => (e1 i hi).1, fun q => absurd rfl q, fun _ => (e1 i hi).2.1, fun q => absurd rfl q, fun _ => (e1 i hi).2.2, fun q => absurd rfl q.1⟩
  · have e0 : ∀ i, i < 6 → xI hV 1 0 (100000 + i) = 0 := by decide +kernel
    have e1 : ∀ i, i < 6 → xR hV 1 1 (100000 + i) = none := by decide +kernel
    exact ⟨e0 u hu, fun _ => e1 u hu, fun q => absurd rfl q⟩
