-- ===== the model stands after its beginning =====
theorem sM_2 (Y : HS) : xR (iM Y) 9 2 900000 = some (1900000 + (100 + 2)) ∧ xK (iM Y) (1900000 + (100 + 2)) = mk9 (100 + 2) ∧ xn (iM Y) (1900000 + (100 + 2)) = ml9 (100 + 2) := ⟨rfl, rfl, rfl⟩
theorem sM_3 (Y : HS) : xR (iM Y) 9 3 900000 = some (1900000 + (100 + 3)) ∧ xK (iM Y) (1900000 + (100 + 3)) = mk9 (100 + 3) ∧ xn (iM Y) (1900000 + (100 + 3)) = ml9 (100 + 3) := ⟨rfl, rfl, rfl⟩
theorem sM_4 (Y : HS) : xR (iM Y) 9 4 900000 = some (1900000 + (100 + 4)) ∧ xK (iM Y) (1900000 + (100 + 4)) = mk9 (100 + 4) ∧ xn (iM Y) (1900000 + (100 + 4)) = ml9 (100 + 4) := ⟨rfl, rfl, rfl⟩
theorem sM_5 (Y : HS) : xR (iM Y) 9 5 900000 = some (1900000 + (100 + 5)) ∧ xK (iM Y) (1900000 + (100 + 5)) = mk9 (100 + 5) ∧ xn (iM Y) (1900000 + (100 + 5)) = ml9 (100 + 5) := ⟨rfl, rfl, rfl⟩
theorem sM_6 (Y : HS) : xR (iM Y) 9 6 900000 = some (1900000 + (100 + 6)) ∧ xK (iM Y) (1900000 + (100 + 6)) = mk9 (100 + 6) ∧ xn (iM Y) (1900000 + (100 + 6)) = ml9 (100 + 6) := ⟨rfl, rfl, rfl⟩
theorem sM_7 (Y : HS) : xR (iM Y) 9 7 900000 = some (1900000 + (100 + 7)) ∧ xK (iM Y) (1900000 + (100 + 7)) = mk9 (100 + 7) ∧ xn (iM Y) (1900000 + (100 + 7)) = ml9 (100 + 7) := ⟨rfl, rfl, rfl⟩
theorem sM_8 (Y : HS) : xR (iM Y) 9 8 900000 = some (1900000 + (100 + 8)) ∧ xK (iM Y) (1900000 + (100 + 8)) = mk9 (100 + 8) ∧ xn (iM Y) (1900000 + (100 + 8)) = ml9 (100 + 8) := ⟨rfl, rfl, rfl⟩
theorem sM_9 (Y : HS) : xR (iM Y) 9 9 900000 = some (1900000 + (100 + 9)) ∧ xK (iM Y) (1900000 + (100 + 9)) = mk9 (100 + 9) ∧ xn (iM Y) (1900000 + (100 + 9)) = ml9 (100 + 9) := ⟨rfl, rfl, rfl⟩
theorem sM_11 (Y : HS) : xR (iM Y) 9 11 900000 = some (1900000 + (100 + 11)) ∧ xK (iM Y) (1900000 + (100 + 11)) = mk9 (100 + 11) ∧ xn (iM Y) (1900000 + (100 + 11)) = ml9 (100 + 11) := ⟨rfl, rfl, rfl⟩
theorem sM_12 (Y : HS) : xR (iM Y) 9 12 900000 = some (1900000 + (100 + 12)) ∧ xK (iM Y) (1900000 + (100 + 12)) = mk9 (100 + 12) ∧ xn (iM Y) (1900000 + (100 + 12)) = ml9 (100 + 12) := ⟨rfl, rfl, rfl⟩
theorem sM_13 (Y : HS) : xR (iM Y) 9 13 900000 = some (1900000 + (100 + 13)) ∧ xK (iM Y) (1900000 + (100 + 13)) = mk9 (100 + 13) ∧ xn (iM Y) (1900000 + (100 + 13)) = ml9 (100 + 13) := ⟨rfl, rfl, rfl⟩
theorem sM_14 (Y : HS) : xR (iM Y) 9 14 900000 = some (1900000 + (100 + 14)) ∧ xK (iM Y) (1900000 + (100 + 14)) = mk9 (100 + 14) ∧ xn (iM Y) (1900000 + (100 + 14)) = ml9 (100 + 14) := ⟨rfl, rfl, rfl⟩
theorem sM_15 (Y : HS) : xR (iM Y) 9 15 900000 = some (1900000 + (100 + 15)) ∧ xK (iM Y) (1900000 + (100 + 15)) = mk9 (100 + 15) ∧ xn (iM Y) (1900000 + (100 + 15)) = ml9 (100 + 15) := ⟨rfl, rfl, rfl⟩
theorem sM_16 (Y : HS) : xR (iM Y) 9 16 900000 = some (1900000 + (100 + 16)) ∧ xK (iM Y) (1900000 + (100 + 16)) = mk9 (100 + 16) ∧ xn (iM Y) (1900000 + (100 + 16)) = ml9 (100 + 16) := ⟨rfl, rfl, rfl⟩
theorem sM_17 (Y : HS) : xR (iM Y) 9 17 900000 = some (1900000 + (100 + 17)) ∧ xK (iM Y) (1900000 + (100 + 17)) = mk9 (100 + 17) ∧ xn (iM Y) (1900000 + (100 + 17)) = ml9 (100 + 17) := ⟨rfl, rfl, rfl⟩
theorem sM_18 (Y : HS) : xR (iM Y) 9 18 900000 = some (1900000 + (100 + 18)) ∧ xK (iM Y) (1900000 + (100 + 18)) = mk9 (100 + 18) ∧ xn (iM Y) (1900000 + (100 + 18)) = ml9 (100 + 18) := ⟨rfl, rfl, rfl⟩
theorem sM_19 (Y : HS) : xR (iM Y) 9 19 900000 = some (1900000 + (100 + 19)) ∧ xK (iM Y) (1900000 + (100 + 19)) = mk9 (100 + 19) ∧ xn (iM Y) (1900000 + (100 + 19)) = ml9 (100 + 19) := ⟨rfl, rfl, rfl⟩
theorem sM_20 (Y : HS) : xR (iM Y) 9 20 900000 = some (1900000 + (100 + 20)) ∧ xK (iM Y) (1900000 + (100 + 20)) = mk9 (100 + 20) ∧ xn (iM Y) (1900000 + (100 + 20)) = ml9 (100 + 20) := ⟨rfl, rfl, rfl⟩
theorem sM_21 (Y : HS) : xR (iM Y) 9 21 900000 = some (1900000 + (100 + 21)) ∧ xK (iM Y) (1900000 + (100 + 21)) = mk9 (100 + 21) ∧ xn (iM Y) (1900000 + (100 + 21)) = ml9 (100 + 21) := ⟨rfl, rfl, rfl⟩
theorem MS_iM {Y : HS} (h9 : xK Y 900000 = 9) : MS (iM Y) := by
  refine ⟨i9_20 h9, fun k hk hr => ?_⟩
  have h : k = 0 ∨ k = 1 ∨ k = 2 ∨ k = 3 ∨ k = 4 ∨ k = 5 ∨ k = 6 ∨ k = 7 ∨ k = 8 ∨ k = 9 ∨ k = 10 ∨ k = 11 ∨ k = 12 ∨ k = 13 ∨ k = 14 ∨ k = 15 ∨ k = 16 ∨ k = 17 ∨ k = 18 ∨ k = 19 ∨ k = 20 ∨ k = 21 ∨ k = 22 ∨ k = 23 ∨ k = 24 ∨ k = 25 := by omega
  rcases h with rfl | rfl | rfl | rfl | rfl | rfl | rfl | rfl | rfl | rfl | rfl | rfl | rfl | rfl | rfl | rfl | rfl | rfl | rfl | rfl | rfl | rfl | rfl | rfl | rfl | rfl
  · exact absurd hr (by decide)
  · exact absurd hr (by decide)
  · exact sM_2 Y
  · exact sM_3 Y
  · exact sM_4 Y
  · exact sM_5 Y
  · exact sM_6 Y
  · exact sM_7 Y
  · exact sM_8 Y
  · exact sM_9 Y
  · exact absurd hr (by decide)
  · exact sM_11 Y
  · exact sM_12 Y
  · exact sM_13 Y
  · exact sM_14 Y
  · exact sM_15 Y
  · exact sM_16 Y
  · exact sM_17 Y
  · exact sM_18 Y
  · exact sM_19 Y
  · exact sM_20 Y
  · exact sM_21 Y
  · exact absurd hr (by decide)
  · exact absurd hr (by decide)
  · exact absurd hr (by decide)
  · exact absurd hr (by decide)
