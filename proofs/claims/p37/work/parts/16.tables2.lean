-- ===== the model: tables =====
section GM2
variable {Γ : GTy} {μ : MTy} {R : Room} {W : WTy} {k : Nat × Nat} {pc : Nat} {L : List (Option Value)} {st : List Value} {Y : HS} {F : FT}
end GM2
def mRent (F : FT) (t c : Nat) : Int32 × FT :=
  if F 102 t = 0 then (if 0 < F 103 t then (nI 0, thr (thr F (nI 0)) (nI 2)) else if lastW (fun k => F 103 k = nI (c + 1)) 4 < 0 then (nI (cnt (fun k => ¬ u2 F 103 t (nI (c + 1)) 103 k ≤ 0) 4), u2 (u2 (thr (thr F (nI 0)) (nI 0)) 103 t (nI (c + 1))) 105 t (nI 0)) else (nI 0, thr (thr F (nI 0)) (nI 2))) else (nI 0, thr (thr F (nI 0)) (nI 2))
def mClears (F : FT) (t h : Nat) : FT := if 0 < h then u2 (u2 F 113 (h - 1) (nI 1)) 104 t (nI 0) else F
def mEnds (F : FT) (t r h : Nat) : Int32 × FT :=
  if r = 0 then (nI 0, F) else (F 1 0 * ((F 105 t + nI 9) / nI 10), if 0 < h ∧ F 112 (h - 1) = 0 then mClears (u2 (u2 (u2 F 106 (r - 1) (F 106 (r - 1) + F 1 0 * ((F 105 t + nI 9) / nI 10))) 103 t (nI 0)) 105 t (nI 0)) t h else u2 (u2 (u2 F 106 (r - 1) (F 106 (r - 1) + F 1 0 * ((F 105 t + nI 9) / nI 10))) 103 t (nI 0)) 105 t (nI 0))
def mEnd (F : FT) (t r h : Nat) : Int32 × FT := if r = 0 then (nI 0, thr (thr F (nI 0)) (nI 2)) else mEnds (thr (thr F (nI 0)) (nI 0)) t r h
theorem mEnds_104 {F : FT} {t r h : Nat} (ht : F 104 t = nI h) : ∃ h' : Nat, (h' = h ∨ h' = 0) ∧ (mEnds F t r h).2 104 t = nI h' := by
  unfold mEnds
  split
  · exact ⟨h, Or.inl rfl, ht⟩
  · dsimp only
    split
    · next g => exact ⟨0, Or.inr rfl, by unfold mClears; rw [if_pos g.1]; simp [u2]⟩
    · exact ⟨h, Or.inl rfl, by simp [u2]; exact ht⟩
def mTear (F : FT) (t r h : Nat) : Int32 × FT := if F 102 t = 0 then ((mEnds (thr (thr F (nI 0)) (nI 0)) t r h).1, u2 (mClears (mEnds (thr (thr F (nI 0)) (nI 0)) t r h).2 t ((mEnds (thr (thr F (nI 0)) (nI 0)) t r h).2 104 t).toNatClampNeg) 102 t (nI 1)) else (nI 0, thr (thr F (nI 0)) (nI 2))
def mMend (F : FT) (t : Nat) : Int32 × FT := if F 102 t = 0 then (nI 0, thr (thr F (nI 0)) (nI 2)) else (nI (cnt (fun k => u2 F 102 t (nI 0) 102 k = 0) 4), u2 (thr (thr F (nI 0)) (nI 0)) 102 t (nI 0))
