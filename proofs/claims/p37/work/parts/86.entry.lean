-- ===== the entry =====
theorem eq_ev {A : Array Value} {s : State} {t : Term} {z : Int32} (h : (Cond.eq t (.int z)).before A s = true) : t.eval A s none [] s = some (.int z) := by
  cases hv : t.eval A s none [] s with
  | none => simp [Cond.before, Cond.holds, Cond.value, hv] at h
  | some w =>
    have hz : (Term.int z).eval A s none [] s = some (.int z) := rfl
    simp only [Cond.before, Cond.holds, Cond.value, hv, hz] at h
    cases w <;> simp_all
/-- a static array as the Statement tells it -/
theorem arr_of {A : Array Value} {s : State} {t : Term} {N : Nat} {vs : Nat → Int32} (he : (Cond.exactly t "[I").before A s = true) (ha : (Cond.arrayOf t .int).before A s = true) (hl : (Cond.eq (.length t) (.int (nI N))).before A s = true) (hN : N < 2 ^ 31) (hv : ∀ j, j < N → (Cond.eq (.elem t (.int (nI j))) (.int (vs j))).before A s = true) : ∃ (a : Nat) (cell : Cell), t.eval A s none [] s = some (.ref a) ∧ va_X a N vs s s.heap ∧ s.heap[a]? = some cell ∧ s.vm.findClass "[I" = some cell.cls := by
  obtain ⟨a, c, cell, k, h1, h2, h3, h4, h5, h6, -⟩ := Cond.exactly_spec he
  have hl2 := eq_ev hl
  obtain ⟨b, cell2, g1, g2, g3⟩ := Term.length_spec hl2
  cases h1.symm.trans g1
  obtain ⟨g4, g5, -, -⟩ := State.arrayAt?_spec g2
  cases h3.symm.trans g4
  have hof := (Cond.arrayOf_spec ha h1 h3).1
  have hsz : cell.slots.size < 2 ^ 31 := by
    simp only [Term.eval, h1, g2, Option.bind_eq_bind, Option.bind_some] at hl2
    by_cases hlt : cell.slots.size < 2147483648
    · exact hlt
    · simp [hlt] at hl2
  have e8 : nI N = nI cell.slots.size := by
    injection g3
  have e9 := (nI_eq hN hsz).mp e8
  refine ⟨a, cell, h1, ⟨cell, h3, hof, g5, e9.symm, fun j hj => ?_⟩, h3, h6 ▸ h2⟩
  obtain ⟨a', j', cell', e1, e2, e3, e4, e5⟩ := Term.elem_spec (eq_ev (hv j hj))
  cases h1.symm.trans e1
  cases g2.symm.trans e3
  have e6 : nI j = j' := by
    have : (Term.int (nI j)).eval A s none [] s = some (.int (nI j)) := rfl
    cases this.symm.trans e2
    rfl
  rw [← e6, nI_clamp (by omega)] at e5
  exact e5
theorem all_in : ∀ c, c < 9 → Cond.instantiable (cN c) (nf c) ∈ BW := by
  intro c hc
  have h : c = 0 ∨ c = 1 ∨ c = 2 ∨ c = 3 ∨ c = 4 ∨ c = 5 ∨ c = 6 ∨ c = 7 ∨ c = 8 := by omega
  rcases h with rfl | rfl | rfl | rfl | rfl | rfl | rfl | rfl | rfl
  · exact wN_0.1
  · exact wN_1.1
  · exact wN_2.1
  · exact wN_3.1
  · exact wN_4.1
  · exact wN_5.1
  · exact wN_6.1
  · exact wN_7.1
  · exact wN_8.1
theorem vw_at : ∀ c, c < 9 → ∃ T, vwCl[c]? = some (cN c, T, nf c) ∧ ∀ w ∈ u_ws (cN c) T (nf c), w ∈ BW := by
  intro c hc
  obtain ⟨C1, T1, g1, g2, g3, g4⟩ := cl_all c hc
  have e9 : C1 = cN c := by
    have h0 : c = 0 ∨ c = 1 ∨ c = 2 ∨ c = 3 ∨ c = 4 ∨ c = 5 ∨ c = 6 ∨ c = 7 ∨ c = 8 := by omega
    rcases h0 with rfl | rfl | rfl | rfl | rfl | rfl | rfl | rfl | rfl <;> cases g1 <;> rfl
  subst e9
  exact ⟨T1, g1, g2⟩
theorem cls_known {A : Array Value} {s : State} (hB : ∀ w ∈ BW, w.before A s = true) : ∃ (dC : Nat → ClassId) (dI : Nat → Nat → Nat), ∀ (c : Nat) (q : vw_C), vwCl[c]? = some q → u_Kn s q.1 q.2.1 q.2.2 (dC c) (dI c) := by
  have h : ∀ c : Nat, ∃ (p : ClassId × (Nat → Nat)), ∀ (q : vw_C), vwCl[c]? = some q → u_Kn s q.1 q.2.1 q.2.2 p.1 p.2 := by
    intro c
    by_cases hc : c < 9
    · obtain ⟨T, h1, h2⟩ := vw_at c hc
      obtain ⟨cC, iS, h3⟩ := u_known (n := nf c) hB h2 (hB _ (all_in c hc))
      refine ⟨(cC, iS), fun q hq => ?_⟩
      cases h1.symm.trans hq
      exact h3
    · refine ⟨(default, fun _ => 0), fun q hq => ?_⟩
      have h2 : vwCl[c]? = none := List.getElem?_eq_none (Nat.le_of_not_lt hc)
      rw [h2] at hq
      cases hq
  exact ⟨fun c => (Classical.choose (h c)).1, fun c => (Classical.choose (h c)).2, fun c q hq => Classical.choose_spec (h c) q hq⟩
theorem ty_prim {A : Array Value} {s : State} {ty : FieldType} (h : (Cond.arrayClass ty).before A s = true) (hp : ∀ C, ty ≠ .object C) : ∃ cA : ClassId, ArrOfT s cA ty ∧ va_RA s cA ty := by
  obtain ⟨c, k, comp, h1, h2, h3⟩ := Cond.arrayClass_spec h
  refine ⟨c, fun n z => ⟨fun k h => (by cases h), k, h2, comp, h3⟩, ?_⟩
  cases ty with
  | object C => exact absurd rfl (hp C)
  | _ => exact h1
theorem ty_obj {A : Array Value} {s : State} {C : String} (h : (Cond.arrayOver (.object C)).before A s = true) : ∃ cA : ClassId, ArrOfT s cA (.object C) ∧ va_RA s cA (.object C) := by
  obtain ⟨comp, c, k, h1, h2, h3, h4, h5⟩ := Cond.arrayOver_spec h
  exact ⟨c, fun n z => ⟨fun k h => (by cases h), k, h3, comp, h4⟩, k, comp, h3, h4, h1, h5⟩
def kT : Nat → FieldType := fun k => match k with
  | 10 => .int
  | 11 => .boolean
  | k => .object (eC k)
theorem tys_known {A : Array Value} {s : State} (hB : ∀ w ∈ BW, w.before A s = true) (hX : ∀ w ∈ XW, w.before A s = true) : ∃ gc : Nat → ClassId, ∀ (k : Nat) (q : ClassId × FieldType), (tyL gc)[k]? = some q → ArrOfT s q.1 q.2 ∧ va_RA s q.1 q.2 := by
  have h : ∀ k : Nat, ∃ cA : ClassId, 10 ≤ k → k ≤ 17 → ArrOfT s cA (kT k) ∧ va_RA s cA (kT k) := by
    intro k
    by_cases hk : 10 ≤ k ∧ k ≤ 17
    · have h0 : k = 10 ∨ k = 11 ∨ k = 12 ∨ k = 13 ∨ k = 14 ∨ k = 15 ∨ k = 16 ∨ k = 17 := by omega
      have P : ∃ cA : ClassId, ArrOfT s cA (kT k) ∧ va_RA s cA (kT k) := by
        rcases h0 with rfl | rfl | rfl | rfl | rfl | rfl | rfl | rfl
        · exact ty_prim (hB _ wA_int) (fun _ h => by cases h)
        · exact ty_prim (hB _ wA_boolean) (fun _ h => by cases h)
        · exact ty_obj (hX _ wP_12)
        · exact ty_obj (hX _ wP_13)
        · exact ty_obj (hX _ wP_14)
        · exact ty_obj (hX _ wP_15)
        · exact ty_obj (hX _ wP_16)
        · exact ty_obj (hX _ wP_17)
      obtain ⟨cA, h1⟩ := P
      exact ⟨cA, fun _ _ => h1⟩
    · exact ⟨default, fun h1 h2 => absurd ⟨h1, h2⟩ hk⟩
  refine ⟨fun k => Classical.choose (h k), fun k q hq => ?_⟩
  have sp := fun k => Classical.choose_spec (h k)
  match k, hq with
  | 0, hq => cases hq; exact sp 10 (by decide) (by decide)
  | 1, hq => cases hq; exact sp 11 (by decide) (by decide)
  | 2, hq => cases hq; exact sp 12 (by decide) (by decide)
  | 3, hq => cases hq; exact sp 13 (by decide) (by decide)
  | 4, hq => cases hq; exact sp 14 (by decide) (by decide)
  | 5, hq => cases hq; exact sp 15 (by decide) (by decide)
  | 6, hq => cases hq; exact sp 16 (by decide) (by decide)
  | 7, hq => cases hq; exact sp 17 (by decide) (by decide)
  | k + 8, hq => simp [tyL] at hq
