-- ===== the constants of a run =====
theorem xw_in : ∀ w ∈ XW, w ∈ lw_tbl := by decide +kernel
theorem st_in : ∀ q ∈ sTx, Cond.stringRef q.1 q.2.1 q.2.2 ∈ lw_tbl ∧ q.1 = "BaulkHall" := by decide +kernel
theorem xw_of {s : State} {A : Array Value} (h : ∀ w ∈ XW, w.before A s = true) : ∀ w ∈ XW, va_Nw w s := by
  intro w hw
  have hs := h w hw
  simp only [XW, List.mem_cons, List.not_mem_nil, or_false] at hw
  rcases hw with rfl | rfl | rfl | rfl | rfl | rfl | rfl | rfl | rfl | rfl | rfl | rfl | rfl | rfl | rfl | rfl | rfl | rfl | rfl | rfl | rfl | rfl | rfl | rfl | rfl | rfl | rfl | rfl | rfl | rfl | rfl | rfl | rfl | rfl <;> first | exact va_Nw.of rfl hs | exact hs
theorem sa_0 {s : State} {b : Nat} (hgv : (Jvm.Cond.and given_1 narrow_1).before #[Value.ref b] s = true) : ∃ (a : Nat) (cell : Cell), (Term.static "BaulkHall" "SPOTS" "[I").eval #[Value.ref b] s none [] s = some (.ref a) ∧ va_X a 8 (fun j => nI (spN j)) s s.heap ∧ s.heap[a]? = some cell ∧ s.vm.findClass "[I" = some cell.cls := by
  have hs := flat_of_before _ hgv
  refine arr_of (hs _ (by decide +kernel)) (hs _ (by decide +kernel)) (hs _ (by decide +kernel)) (by decide) (fun j hj => ?_)
  have h0 : j = 0 ∨ j = 1 ∨ j = 2 ∨ j = 3 ∨ j = 4 ∨ j = 5 ∨ j = 6 ∨ j = 7 := by omega
  rcases h0 with rfl | rfl | rfl | rfl | rfl | rfl | rfl | rfl <;> exact hs _ (by decide +kernel)
theorem sa_1 {s : State} {b : Nat} (hgv : (Jvm.Cond.and given_1 narrow_1).before #[Value.ref b] s = true) : ∃ (a : Nat) (cell : Cell), (Term.static "BaulkHall" "POCKETS" "[I").eval #[Value.ref b] s none [] s = some (.ref a) ∧ va_X a 6 (fun j => nI (pkA j)) s s.heap ∧ s.heap[a]? = some cell ∧ s.vm.findClass "[I" = some cell.cls := by
  have hs := flat_of_before _ hgv
  refine arr_of (hs _ (by decide +kernel)) (hs _ (by decide +kernel)) (hs _ (by decide +kernel)) (by decide) (fun j hj => ?_)
  have h0 : j = 0 ∨ j = 1 ∨ j = 2 ∨ j = 3 ∨ j = 4 ∨ j = 5 := by omega
  rcases h0 with rfl | rfl | rfl | rfl | rfl | rfl <;> exact hs _ (by decide +kernel)
theorem sa_2 {s : State} {b : Nat} (hgv : (Jvm.Cond.and given_1 narrow_1).before #[Value.ref b] s = true) : ∃ (a : Nat) (cell : Cell), (Term.static "BaulkHall" "COLUMN_STEPS" "[I").eval #[Value.ref b] s none [] s = some (.ref a) ∧ va_X a 8 (fun j => nI (ex j) - nI 1) s s.heap ∧ s.heap[a]? = some cell ∧ s.vm.findClass "[I" = some cell.cls := by
  have hs := flat_of_before _ hgv
  refine arr_of (hs _ (by decide +kernel)) (hs _ (by decide +kernel)) (hs _ (by decide +kernel)) (by decide) (fun j hj => ?_)
  have h0 : j = 0 ∨ j = 1 ∨ j = 2 ∨ j = 3 ∨ j = 4 ∨ j = 5 ∨ j = 6 ∨ j = 7 := by omega
  rcases h0 with rfl | rfl | rfl | rfl | rfl | rfl | rfl | rfl <;> exact hs _ (by decide +kernel)
theorem sa_3 {s : State} {b : Nat} (hgv : (Jvm.Cond.and given_1 narrow_1).before #[Value.ref b] s = true) : ∃ (a : Nat) (cell : Cell), (Term.static "BaulkHall" "ROW_STEPS" "[I").eval #[Value.ref b] s none [] s = some (.ref a) ∧ va_X a 8 (fun j => nI (ey j) - nI 1) s s.heap ∧ s.heap[a]? = some cell ∧ s.vm.findClass "[I" = some cell.cls := by
  have hs := flat_of_before _ hgv
  refine arr_of (hs _ (by decide +kernel)) (hs _ (by decide +kernel)) (hs _ (by decide +kernel)) (by decide) (fun j hj => ?_)
  have h0 : j = 0 ∨ j = 1 ∨ j = 2 ∨ j = 3 ∨ j = 4 ∨ j = 5 ∨ j = 6 ∨ j = 7 := by omega
  rcases h0 with rfl | rfl | rfl | rfl | rfl | rfl | rfl | rfl <;> exact hs _ (by decide +kernel)
theorem GF_start {s : State} {b L : Nat} {xs : Nat → Int32} {l : Launch} (hflags : l.flags = flags0) (hts : ∀ w ∈ lw_tbl, w.before #[Value.ref b] s = true) (hX : va_X b L xs s s.heap) (hbl : b < s.heap.size) (hgv : (Jvm.Cond.and given_1 narrow_1).before #[Value.ref b] s = true) : ∃ Γ : GTy, gl Γ = l ∧ gb Γ = s.heap.size ∧ GS Γ ∧ gt Γ 4 = (b, L, xs) ∧ GF Γ s := by
  have hs := flat_of_before _ hgv
  have hB : ∀ w ∈ BW, w.before #[Value.ref b] s = true := fun w hw => tb2_ok hts w (List.mem_filter.mp hw).1
  have hXW : ∀ w ∈ XW, w.before #[Value.ref b] s = true := fun w hw => hts w (xw_in w hw)
  obtain ⟨dC, dI, hK1⟩ := cls_known hB
  obtain ⟨gc, hK2⟩ := tys_known hB hXW
  obtain ⟨a0, c0, e0, x0, h0, k0⟩ := sa_0 hgv
  obtain ⟨a1, c1, e1, x1, h1, k1⟩ := sa_1 hgv
  obtain ⟨a2, c2, e2, x2, h2, k2⟩ := sa_2 hgv
  obtain ⟨a3, c3, e3, x3, h3, k3⟩ := sa_3 hgv
  have hcur : ∃ cur : ClassId, s.vm.findClass "BaulkHall" = some cur := by
    obtain ⟨T, g1, -⟩ := vw_at 8 (by decide)
    exact ⟨_, (hK1 8 _ g1).2.1⟩
  obtain ⟨cur, hcur⟩ := hcur
  have hst : ∀ i : Nat, ∃ a : Nat, ∀ q : String × Nat × String, sTx[i]? = some q → vk_R q.1 q.2.1 q.2.2 a s := by
    intro i
    cases hq : sTx[i]? with
    | none => exact ⟨0, fun q h => by cases h⟩
    | some q =>
      obtain ⟨m1, m2⟩ := st_in q (List.mem_of_getElem? hq)
      have w1 := hts _ m1
      obtain ⟨k, cf, i9, a, -, -, -, -, -, hev⟩ := Cond.stringRef_spec (m2 ▸ hcur) w1
      refine ⟨a, fun q' h => ?_⟩
      cases h
      exact vk_R.of w1 hev
  have hlt : ∀ {a : Nat} {c : Cell}, s.heap[a]? = some c → a < s.heap.size := fun h => (Array.getElem?_eq_some_iff.mp h).1
  refine ⟨(l, (dC, dI), gc, s.heap.size, fun i => Classical.choose (hst i), fun i => match i with | 0 => (a0, 8, fun j => nI (spN j)) | 1 => (a1, 6, fun j => nI (pkA j)) | 2 => (a2, 8, fun j => nI (ex j) - nI 1) | 3 => (a3, 8, fun j => nI (ey j) - nI 1) | _ => (b, L, xs)), rfl, rfl, ⟨⟨rfl, fun _ _ => rfl⟩, ⟨rfl, fun _ _ => rfl⟩, ⟨rfl, fun _ _ => rfl⟩, rfl, fun _ _ => rfl⟩, rfl, ?_⟩
  have hA : ∀ a : Nat, a < s.heap.size → ¬ (s.heap.size ≤ a) := fun a h => Nat.not_le.mpr h
  refine ⟨⟨hK1, hK2⟩, xw_of hXW, fun i hi => ?_, fun i hi => ?_, fun i q hq => Classical.choose_spec (hst i) q hq, ⟨?_, ?_, fun q hq => ?_, ?_⟩, Nat.le_refl _⟩
  · have h : i = 0 ∨ i = 1 ∨ i = 2 ∨ i = 3 ∨ i = 4 := by omega
    rcases h with rfl | rfl | rfl | rfl | rfl
    · exact ⟨x0, hlt h0⟩
    · exact ⟨x1, hlt h1⟩
    · exact ⟨x2, hlt h2⟩
    · exact ⟨x3, hlt h3⟩
    · exact ⟨hX, hbl⟩
  · have h : i = 0 ∨ i = 1 ∨ i = 2 ∨ i = 3 := by omega
    have hini : (Cond.initialized "BaulkHall").before #[Value.ref b] s = true := hB _ wN_8.2
    rcases h with rfl | rfl | rfl | rfl
    · exact ⟨va_Zof (hts _ (by decide +kernel)) hini e0 hA, c0, h0, k0⟩
    · exact ⟨va_Zof (hts _ (by decide +kernel)) hini e1 hA, c1, h1, k1⟩
    · exact ⟨va_Zof (hts _ (by decide +kernel)) hini e2 hA, c2, h2, k2⟩
    · exact ⟨va_Zof (hts _ (by decide +kernel)) hini e3 hA, c3, h3, k3⟩
  · exact vx_Zqof (hts _ (by decide +kernel)) (hts _ (by decide +kernel)) (hs _ (by decide +kernel)) hA
  · exact vx_Zqof (hts _ (by decide +kernel)) (hts _ (by decide +kernel)) (hs _ (by decide +kernel)) hA
  · simp only [nCL, List.mem_cons, List.not_mem_nil, or_false] at hq
    rcases hq with rfl | rfl | rfl <;> exact va_Nc.of (hs _ (by decide +kernel))
  · show l.stackTraces = false
    unfold Launch.stackTraces
    rw [hflags]
    decide +kernel
