-- ===== THE WORDS: the good ones of the tables; those that a warmer machine keeps; the texts =====
/-- a private method of an abstract class, on an object of a class under it: it is selected itself -/
theorem sel_sub {C : String} {y y2 : MethodName} {s : State} {args : Array Value} (hy : y.cls ≠ "java/lang/invoke/MethodHandle" ∧ y.cls ≠ "java/lang/invoke/VarHandle") (h2 : (Cond.selects C y2 y2).before args s = true) (hc : y2.cls = y.cls)
    (hpriv : (Cond.privateMethod y).before args s = true) (hinst : (Cond.instanceMethod y).before args s = true) : (Cond.selects C y y).before args s = true := by
  obtain ⟨c, r, m2, q1, -, q3, -, kP, hk, hni⟩ := Cond.selects_spec h2
  obtain ⟨mk, methM, hnamed, hmethM, -, -⟩ := Cond.instanceMethod_spec hinst
  have hfound : s.methodFound? y.cls y.name y.desc = some mk := State.methodFound?_of_named hnamed hy
  have e2 := findClass_of_methodNamed q3
  rw [hc] at e2
  have e : mk.cls = m2.cls := Option.some.inj ((findClass_of_methodNamed hnamed).symm.trans e2)
  have hsel : selectMethod {} s.vm c mk = .method mk := selectMethod_private hmethM (Cond.privateMethod_at hpriv mk methM hnamed hmethM)
  simp only [Cond.before, Cond.holds, Cond.value, q1, hfound, hnamed, hsel, e, hk]
  simp; exact hni
def rp_ps : List (String × MethodName) := [("BaulkHall$BoardRoll", ⟨"BaulkHall$Roll", "isSomeRolling", "()Z"⟩), ("BaulkHall$BoardRoll", ⟨"BaulkHall$Roll", "isRolling", "(I)Z"⟩), ("BaulkHall$BoardRoll", ⟨"BaulkHall$Roll", "act", "(I)V"⟩), ("BaulkHall$BoardRoll", ⟨"BaulkHall$Roll", "meet", "(II)V"⟩), ("BaulkHall$BoardRoll", ⟨"BaulkHall$Roll", "roll", "(II)V"⟩), ("BaulkHall$PairsRoll", ⟨"BaulkHall$Roll", "isSomeRolling", "()Z"⟩), ("BaulkHall$PairsRoll", ⟨"BaulkHall$Roll", "isRolling", "(I)Z"⟩), ("BaulkHall$PairsRoll", ⟨"BaulkHall$Roll", "act", "(I)V"⟩), ("BaulkHall$PairsRoll", ⟨"BaulkHall$Roll", "meet", "(II)V"⟩), ("BaulkHall$PairsRoll", ⟨"BaulkHall$Roll", "roll", "(II)V"⟩)]
def lw_tb2 : List Cond := lw_tbl ++ rp_ps.map (fun q => Cond.selects q.1 q.2 q.2)
theorem tb2_ok {args : Array Value} {s : State} (h : ∀ w ∈ lw_tbl, w.before args s = true) : ∀ w ∈ lw_tb2, w.before args s = true := by
  intro w hw
  rcases List.mem_append.mp hw with hw | hw
  · exact h w hw
  · have k0 : Cond.selects "BaulkHall$BoardRoll" ⟨"BaulkHall$Roll", "run", "([III)V"⟩ ⟨"BaulkHall$Roll", "run", "([III)V"⟩ ∈ lw_tbl := List.mem_of_getElem? (i := 539) (by decide +kernel)
    have k4 : Cond.selects "BaulkHall$PairsRoll" ⟨"BaulkHall$Roll", "run", "([III)V"⟩ ⟨"BaulkHall$Roll", "run", "([III)V"⟩ ∈ lw_tbl := List.mem_of_getElem? (i := 540) (by decide +kernel)
    obtain ⟨q, hq, rfl⟩ := List.mem_map.mp hw
    simp only [rp_ps, List.mem_cons, List.not_mem_nil, or_false] at hq
    rcases hq with rfl | rfl | rfl | rfl | rfl | rfl | rfl | rfl | rfl | rfl
    · exact sel_sub ⟨by decide, by decide⟩ (h _ k0) rfl (h _ (List.mem_of_getElem? (i := 556) (by decide +kernel))) (h _ (List.mem_of_getElem? (i := 557) (by decide +kernel)))
    · exact sel_sub ⟨by decide, by decide⟩ (h _ k0) rfl (h _ (List.mem_of_getElem? (i := 560) (by decide +kernel))) (h _ (List.mem_of_getElem? (i := 561) (by decide +kernel)))
    · exact sel_sub ⟨by decide, by decide⟩ (h _ k0) rfl (h _ (List.mem_of_getElem? (i := 564) (by decide +kernel))) (h _ (List.mem_of_getElem? (i := 565) (by decide +kernel)))
    · exact sel_sub ⟨by decide, by decide⟩ (h _ k0) rfl (h _ (List.mem_of_getElem? (i := 600) (by decide +kernel))) (h _ (List.mem_of_getElem? (i := 601) (by decide +kernel)))
    · exact sel_sub ⟨by decide, by decide⟩ (h _ k0) rfl (h _ (List.mem_of_getElem? (i := 604) (by decide +kernel))) (h _ (List.mem_of_getElem? (i := 605) (by decide +kernel)))
    · exact sel_sub ⟨by decide, by decide⟩ (h _ k4) rfl (h _ (List.mem_of_getElem? (i := 556) (by decide +kernel))) (h _ (List.mem_of_getElem? (i := 557) (by decide +kernel)))
    · exact sel_sub ⟨by decide, by decide⟩ (h _ k4) rfl (h _ (List.mem_of_getElem? (i := 560) (by decide +kernel))) (h _ (List.mem_of_getElem? (i := 561) (by decide +kernel)))
    · exact sel_sub ⟨by decide, by decide⟩ (h _ k4) rfl (h _ (List.mem_of_getElem? (i := 564) (by decide +kernel))) (h _ (List.mem_of_getElem? (i := 565) (by decide +kernel)))
    · exact sel_sub ⟨by decide, by decide⟩ (h _ k4) rfl (h _ (List.mem_of_getElem? (i := 600) (by decide +kernel))) (h _ (List.mem_of_getElem? (i := 601) (by decide +kernel)))
    · exact sel_sub ⟨by decide, by decide⟩ (h _ k4) rfl (h _ (List.mem_of_getElem? (i := 604) (by decide +kernel))) (h _ (List.mem_of_getElem? (i := 605) (by decide +kernel)))
def BW : List Cond := lw_tb2.filter goodWord
theorem bw_i {w : Cond} (i : Nat) (h : lw_tb2[i]? = some w) (g : goodWord w = true) : w ∈ BW := List.mem_filter.mpr ⟨List.mem_of_getElem? h, g⟩
theorem bw_in {w : Cond} (h : w ∈ lw_tb2) (g : goodWord w = true) : w ∈ BW := List.mem_filter.mpr ⟨h, g⟩
theorem bw_good : ∀ w ∈ BW, (w.onTables && w.keeps) = true ∨ ∃ ty, w = .arrayClass ty := fun w h => good_of_word (List.mem_filter.mp h).2
def XW : List Cond := [Cond.arrayOver (FieldType.object "BaulkHall$Table"), Cond.arrayOver (FieldType.object "BaulkHall$Cue"), Cond.arrayOver (FieldType.object "BaulkHall$Frame"), Cond.arrayOver (FieldType.object "BaulkHall$Rental"), Cond.arrayOver (FieldType.object "BaulkHall$Stay"), Cond.arrayOver (FieldType.object "BaulkHall$Loan"), Cond.methodLinkNest "BaulkHall" 54 ⟨"BaulkHall$BoardRoll", "<init>", "()V"⟩ "BaulkHall", Cond.methodLinkNest "BaulkHall$BoardRoll" 3 ⟨"BaulkHall$Roll", "<init>", "()V"⟩ "BaulkHall", Cond.methodLinkNest "BaulkHall" 61 ⟨"BaulkHall$PairsRoll", "<init>", "()V"⟩ "BaulkHall", Cond.methodLinkNest "BaulkHall$PairsRoll" 3 ⟨"BaulkHall$Roll", "<init>", "()V"⟩ "BaulkHall", Cond.methodLinkNest "BaulkHall" 69 ⟨"BaulkHall$Table", "<init>", "()V"⟩ "BaulkHall", Cond.methodLinkNest "BaulkHall" 70 ⟨"BaulkHall$Cue", "<init>", "()V"⟩ "BaulkHall", Cond.castable "java/lang/IllegalArgumentException" "java/lang/IllegalArgumentException", Cond.declares ⟨"java/lang/RuntimeException", "<init>", "()V"⟩, Cond.declares ⟨"java/lang/RuntimeException", "<init>", "(Ljava/lang/String;)V"⟩, Cond.declares ⟨"java/lang/Exception", "<init>", "()V"⟩, Cond.declares ⟨"java/lang/Exception", "<init>", "(Ljava/lang/String;)V"⟩, Cond.declares ⟨"java/lang/Throwable", "<init>", "()V"⟩, Cond.declares ⟨"java/lang/Throwable", "<init>", "(Ljava/lang/String;)V"⟩, Cond.castable "java/lang/IllegalStateException" "java/lang/IllegalStateException", Cond.castable "java/lang/IndexOutOfBoundsException" "java/lang/IndexOutOfBoundsException", Cond.fieldLinkNest "BaulkHall$Frame" 9 "BaulkHall" "SPOTS" "[I" "BaulkHall", Cond.castable "[I" "java/lang/Cloneable", Cond.declares ⟨"BaulkHall$Roll", "lay", "()V"⟩, Cond.methodLinkNest "BaulkHall$Roll" 47 ⟨"BaulkHall", "cellBeside", "(II)I"⟩ "BaulkHall", Cond.methodLinkNest "BaulkHall$Roll" 51 ⟨"BaulkHall", "turnedBack", "(II)I"⟩ "BaulkHall", Cond.declares ⟨"BaulkHall$Roll", "ballBeside", "(II)I"⟩, Cond.methodLinkNest "BaulkHall$BoardRoll" 22 ⟨"BaulkHall", "cellBeside", "(II)I"⟩ "BaulkHall", Cond.fieldLinkNest "BaulkHall$PairsRoll" 19 "BaulkHall" "COLUMN_STEPS" "[I" "BaulkHall", Cond.fieldLinkNest "BaulkHall$PairsRoll" 22 "BaulkHall" "ROW_STEPS" "[I" "BaulkHall", Cond.methodLinkNest "BaulkHall$Roll" 64 ⟨"BaulkHall", "isPocket", "(I)Z"⟩ "BaulkHall", Cond.declares ⟨"BaulkHall$Roll", "note", "(III)V"⟩, Cond.methodLinkNest "BaulkHall$Frame" 120 ⟨"BaulkHall", "isPocket", "(I)Z"⟩ "BaulkHall", Cond.methodLinkNest "BaulkHall$Frame" 126 ⟨"BaulkHall", "cellBeside", "(II)I"⟩ "BaulkHall"]
def sTx : List (String × Nat × String) := [("BaulkHall", 295, "out of range"), ("BaulkHall", 134, "the hall knows no later minute"), ("BaulkHall", 299, "no such table"), ("BaulkHall", 297, "no such customer"), ("BaulkHall", 142, "a frame has two players"), ("BaulkHall", 148, "no more frames can be begun"), ("BaulkHall", 305, "the table is closed or has a frame"), ("BaulkHall", 310, "neither player rents the table"), ("BaulkHall", 301, "no such cue"), ("BaulkHall", 229, "the cue is lent, or the customer has one"), ("BaulkHall", 303, "no such frame"), ("BaulkHall", 270, "no such ball"), ("BaulkHall", 97, "the table is not to be had, or the customer rents one"), ("BaulkHall", 117, "the table is not rented"), ("BaulkHall", 123, "the table is closed"), ("BaulkHall", 129, "the table is open"), ("BaulkHall", 171, "the frame does not wait"), ("BaulkHall", 189, "the frame is on no table"), ("BaulkHall", 243, "the cue is not lent"), ("BaulkHall", 254, "the cue is lent")]
def nSt : Nat → String := fun i => match i with
  | 0 => "SPOTS"
  | 1 => "POCKETS"
  | 2 => "COLUMN_STEPS"
  | _ => "ROW_STEPS"
theorem xw_moved {s U : State} (hW : s.WarmedH U.vm) (h : ∀ w ∈ XW, va_Nw w s) : ∀ w ∈ XW, va_Nw w U := by
  intro w hw
  have hs := h w hw
  simp only [XW, List.mem_cons, List.not_mem_nil, or_false] at hw
  rcases hw with rfl | rfl | rfl | rfl | rfl | rfl | rfl | rfl | rfl | rfl | rfl | rfl | rfl | rfl | rfl | rfl | rfl | rfl | rfl | rfl | rfl | rfl | rfl | rfl | rfl | rfl | rfl | rfl | rfl | rfl | rfl | rfl | rfl | rfl <;> first | exact va_Nw.warmM hW hs | exact va_Nw.warmF hW hs | exact va_Nw.warmC hW hs | exact va_Nw.warmD hW hs | exact va_AO.moved hW.alike hs
theorem xw_use {U : State} {args : Array Value} (h : ∀ w ∈ XW, va_Nw w U) : ∀ w ∈ XW, w.before args U = true := by
  intro w hw
  have hs := h w hw
  simp only [XW, List.mem_cons, List.not_mem_nil, or_false] at hw
  rcases hw with rfl | rfl | rfl | rfl | rfl | rfl | rfl | rfl | rfl | rfl | rfl | rfl | rfl | rfl | rfl | rfl | rfl | rfl | rfl | rfl | rfl | rfl | rfl | rfl | rfl | rfl | rfl | rfl | rfl | rfl | rfl | rfl | rfl | rfl <;> first | exact va_tabs rfl rfl hs | exact hs
-- ===== HEAP STATES =====
/-- addresses and kinds; int fields and reference fields by class, slot and address; arrays: length, ints, longs, references -/
abbrev HS : Type := (List Nat × (Nat → Nat)) × ((Nat → Nat → Nat → Int32) × (Nat → Nat → Nat → Option Nat)) × ((Nat → Nat) × (Nat → Nat → Int32) × (Nat → Nat → Int64) × (Nat → Nat → Option Nat))
def xL (X : HS) : List Nat := X.1.1
def xK (X : HS) : Nat → Nat := X.1.2
def xI (X : HS) : Nat → Nat → Nat → Int32 := X.2.1.1
def xR (X : HS) : Nat → Nat → Nat → Option Nat := X.2.1.2
def xn (X : HS) : Nat → Nat := X.2.2.1
def xA (X : HS) : Nat → Nat → Int32 := X.2.2.2.1
def xJ (X : HS) : Nat → Nat → Int64 := X.2.2.2.2.1
def xP (X : HS) : Nat → Nat → Option Nat := X.2.2.2.2.2
def u3 {α : Type} (f : Nat → Nat → Nat → α) (c k a : Nat) (v : α) : Nat → Nat → Nat → α := fun c' k' a' => if c' = c ∧ k' = k ∧ a' = a then v else f c' k' a'
def u2 {α : Type} (f : Nat → Nat → α) (a i : Nat) (v : α) : Nat → Nat → α := fun a' i' => if a' = a ∧ i' = i then v else f a' i'
def sI (X : HS) (c k a : Nat) (v : Int32) : HS := (X.1, (u3 (xI X) c k a v, xR X), X.2.2)
def sR (X : HS) (c k a : Nat) (v : Option Nat) : HS := (X.1, (xI X, u3 (xR X) c k a v), X.2.2)
def sA (X : HS) (a i : Nat) (v : Int32) : HS := (X.1, X.2.1, (xn X, u2 (xA X) a i v, xJ X, xP X))
def sJ (X : HS) (a i : Nat) (v : Int64) : HS := (X.1, X.2.1, (xn X, xA X, u2 (xJ X) a i v, xP X))
def sP (X : HS) (a i : Nat) (v : Option Nat) : HS := (X.1, X.2.1, (xn X, xA X, xJ X, u2 (xP X) a i v))
/-- a new cell of kind kd: all that is told of it is told anew -/
def nX (X : HS) (q kd n : Nat) (f : Nat → Int32) : HS := ((xL X ++ [q], va_up (xK X) q kd), (fun c' k a => if a = q then 0 else xI X c' k a, fun c' k a => if a = q then none else xR X c' k a), (va_up (xn X) q n, va_up (xA X) q f, va_up (xJ X) q (fun _ => 0), va_up (xP X) q (fun _ => none)))
/-- a new object, its fields 0 and null; a new array of ints (booleans), of longs, of references -/
def nO (X : HS) (q c : Nat) : HS := nX X q c 0 (fun _ => 0)
def nA (X : HS) (q kd n : Nat) (f : Nat → Int32) : HS := nX X q kd n f
def nJ (X : HS) (q kd n : Nat) : HS := nX X q kd n (fun _ => 0)
def nP (X : HS) (q kd n : Nat) : HS := nX X q kd n (fun _ => 0)
-- ===== CLASSES =====
def nf : Nat → Nat := fun c => match c with
  | 0 => 7
  | 1 => 2
  | 2 => 11
  | 3 => 3
  | 4 => 6
  | 5 => 5
  | 6 => 3
  | 7 => 5
  | 8 => 16
  | 9 => 0
  | _ => 0
def ft : Nat → Nat → FieldType := fun c => match c with
  | 0 => tyX0
  | 1 => tyX1
  | 2 => tyX2
  | 3 => tyX3
  | 4 => tyX4
  | 5 => tyX5
  | 6 => tyX7
  | 7 => tyX8
  | 8 => tyX9
  | _ => tyX10
def rf (c k : Nat) : Bool := match ft c k with
  | .int => false
  | .boolean => false
  | _ => true
def gv (X : HS) (c k a : Nat) : Value := if rf c k = true then va_rf (xR X c k a) else .int (xI X c k a)
def fl (X : HS) (c a : Nat) : List Value := (List.range (nf c)).map (fun k => gv X c k a)
def ce (cy : Nat → ClassId) (X : HS) (a : Nat) : va_E := if xK X a < 9 then .inr (xK X a, fl X (xK X a) a) else .inl (cy (xK X a), xn X a, if xK X a < 12 then .inl (xA X a) else if xK X a = 18 then .inr (.inl (xJ X a)) else .inr (.inr (.inr (.inr (xP X a)))))
def eC : Nat → String := fun k => match k with
  | 12 => "BaulkHall$Cue"
  | 13 => "BaulkHall$Frame"
  | 14 => "BaulkHall$Loan"
  | 15 => "BaulkHall$Rental"
  | 16 => "BaulkHall$Stay"
  | _ => "BaulkHall$Table"
def tyL (cy : Nat → ClassId) : List (ClassId × FieldType) := [(cy 10, .int), (cy 11, .boolean), (cy 12, .object (eC 12)), (cy 13, .object (eC 13)), (cy 14, .object (eC 14)), (cy 15, .object (eC 15)), (cy 16, .object (eC 16)), (cy 17, .object (eC 17))]
/-- what the tables say of each class -/
def clOk (c : Nat) : Prop := ∃ (C : String) (T : u_T), vwCl[c]? = some (C, T, nf c) ∧ (∀ w ∈ u_ws C T (nf c), w ∈ BW) ∧ (∀ k, k < nf c → parseFieldDescriptor (T k).2.2.1 = some (ft c k)) ∧ (∀ a, a < nf c → ∀ b, b < nf c → a ≠ b → (T a).2.1 ≠ (T b).2.1)
-- ===== WHAT HOLDS THROUGHOUT =====
def xIO : String := "java/lang/IndexOutOfBoundsException"
def xIS : String := "java/lang/IllegalStateException"
def xIA : String := "java/lang/IllegalArgumentException"
def nCL : List (String × String) := [(xIS, xIO), (xIS, xIA), (xIA, xIO)]
abbrev GTy : Type := Launch × va_G × (Nat → ClassId) × Nat × (Nat → Nat) × (Nat → Nat × Nat × (Nat → Int32))
def gl (Γ : GTy) : Launch := Γ.1
def gD (Γ : GTy) : va_G := Γ.2.1
def gc (Γ : GTy) : Nat → ClassId := Γ.2.2.1
def gb (Γ : GTy) : Nat := Γ.2.2.2.1
def gs (Γ : GTy) : Nat → Nat := Γ.2.2.2.2.1
def gt (Γ : GTy) : Nat → Nat × Nat × (Nat → Int32) := Γ.2.2.2.2.2
def gA (Γ : GTy) : Nat → Prop := fun q => gb Γ ≤ q
/-- of a state U -/
def GF (Γ : GTy) (U : State) : Prop :=
  va_K (gD Γ) vwCl (tyL (gc Γ)) U ∧ (∀ w ∈ XW, va_Nw w U) ∧ (∀ i, i < 5 → va_X (gt Γ i).1 (gt Γ i).2.1 (gt Γ i).2.2 U U.heap ∧ (gt Γ i).1 < gb Γ) ∧
  (∀ i, i < 4 → va_Z "BaulkHall" (nSt i) "[I" (.ref (gt Γ i).1) (gA Γ) U U.heap ∧ ∃ cell : Cell, U.heap[(gt Γ i).1]? = some cell ∧ U.vm.findClass "[I" = some cell.cls) ∧ (∀ (i : Nat) (q : String × Nat × String), sTx[i]? = some q → vk_R q.1 q.2.1 q.2.2 (gs Γ i) U) ∧
  (vx_Zq Bundle.tN "UNASSIGNED_STACK" Bundle.steD (gA Γ) U U.heap ∧ vx_Zq Bundle.tN "SUPPRESSED_SENTINEL" Bundle.listD (gA Γ) U U.heap ∧ (∀ q ∈ nCL, va_Nc q.1 q.2 U) ∧ (gl Γ).stackTraces = false) ∧ gb Γ ≤ U.heap.size
theorem GF.moved {Γ : GTy} {s U : State} (h : GF Γ s) (hW : s.WarmedH U.vm) (hz : gb Γ ≤ U.heap.size) (hq : ∀ q : Nat, q < s.heap.size → ¬ gA Γ q → U.heap[q]? = s.heap[q]?) : GF Γ U := by
  obtain ⟨h1, h2, h3, h4, h5, ⟨h6, h7, h9, h10⟩, h8⟩ := h
  refine ⟨va_K.moved hW.alike h1, xw_moved hW h2, fun i hi => ⟨?_, (h3 i hi).2⟩, fun i hi => ⟨va_Z.moved hW.alike ((h4 i hi).1.kept hq), ?_⟩, fun i q hi => vk_R.warm hW (h5 i q hi), ⟨vx_Zq.moved hW.alike (h6.kept hq), vx_Zq.moved hW.alike (h7.kept hq), fun q hm => va_Nc.moved hW.alike (h9 q hm), h10⟩, hz⟩
  rotate_left
  · obtain ⟨cell, e1, e2⟩ := (h4 i hi).2
    refine ⟨cell, ?_, by rw [hW.alike.findClass]; exact e2⟩
    rw [hq _ (Nat.lt_of_lt_of_le (h3 i (by omega)).2 h8) (Nat.not_le.mpr (h3 i (by omega)).2)]
    exact e1
  refine va_X.moved hW.alike ((h3 i hi).1.kept (hq _ (Nat.lt_of_lt_of_le (h3 i hi).2 h8) ?_))
  exact Nat.not_le.mpr (h3 i hi).2
/-- the heap holds the state X -/
def Rp (Γ : GTy) (X : HS) (H : Heap) : Prop := va_P (gD Γ) vwCl (va_pl (xL X) (ce (gc Γ) X)) H ∧ va_D (gA Γ) (va_pl (xL X) (ce (gc Γ) X)) ∧ ∀ a, a ∉ xL X → xK X a = 99
theorem Rp.mem {Γ : GTy} {X : HS} {H : Heap} (h : Rp Γ X H) {a : Nat} (hk : xK X a ≠ 99) : a ∈ xL X := by
  by_cases q : a ∈ xL X
  · exact q
  · exact absurd (h.2.2 a q) hk
-- ===== METHODS =====
/-- name, code, locals, result, handlers, depth, cells, slots, whether it makes cells of the state -/
abbrev MTy : Type := MethodName × ByteArray × Nat × Option FieldType × List (Nat × Nat × Nat × Nat) × Nat × Nat × Nat × Bool
def mN (μ : MTy) : MethodName := μ.1
def mC (μ : MTy) : ByteArray := μ.2.1
def mL (μ : MTy) : Nat := μ.2.2.1
def mR (μ : MTy) : Option FieldType := μ.2.2.2.1
def mH (μ : MTy) : List (Nat × Nat × Nat × Nat) := μ.2.2.2.2.1
def mD (μ : MTy) : Nat := μ.2.2.2.2.2.1
def mM (μ : MTy) : Nat := μ.2.2.2.2.2.2.1
def mS (μ : MTy) : Nat := μ.2.2.2.2.2.2.2.1
def mA (μ : MTy) : Bool := μ.2.2.2.2.2.2.2.2
def rm (μ : MTy) : Room := { frames := mD μ, cells := mM μ, slots := mS μ, locals := 36 * mD μ }
/-- at a method's frame -/
def Cx (Γ : GTy) (μ : MTy) (p : Program) (s : State) (m : MethodId) (args : Array Value) (meth : Method) (c : Code) : Prop :=
  p.tables.exec = Jvm.exec ∧ c.code = mC μ ∧ c.maxLocals = mL μ ∧ meth.sig.returnType = mR μ ∧ meth.locks = false ∧ c.exceptionTable.toList = tableOf (mH μ) ∧ s.vm.findClass (mN μ).cls = some m.cls ∧ meth.name = (mN μ).name ∧ (∀ w ∈ BW, w.before args s = true) ∧ GF Γ s
def LR (ls : Array Slot) (n : Nat) (L : List (Option Value)) : Prop := ls.size = n ∧ lv_wf ls ∧ ∀ (i : Nat) (v : Value), L[i]? = some (some v) → ls[i]? = some (.val v) ∧ v.category = 1
def lp (L : List (Option Value)) : List (Nat × Value) := (List.range L.length).filterMap (fun i => match L[i]? with
  | some (some v) => some (i, v)
  | _ => none)
theorem lp_mem {L : List (Option Value)} {q : Nat × Value} : q ∈ lp L ↔ L[q.1]? = some (some q.2) := by
  obtain ⟨i, v⟩ := q
  simp only [lp, List.mem_filterMap, List.mem_range]
  constructor
  · rintro ⟨j, hj, h⟩
    split at h
    next w hw => cases h; exact hw
    next => cases h
  · intro h
    refine ⟨i, (List.getElem?_eq_some_iff.mp h).1, ?_⟩
    simp only [h]
theorem LR.has {ls : Array Slot} {n : Nat} {L : List (Option Value)} (h : LR ls n L) : lv_has ls n (lp L) := ⟨h.1, h.2.1, fun q hq => (h.2.2 q.1 q.2 (lp_mem.mp hq)).1⟩
theorem LR.put {ls ls' : Array Slot} {n i : Nat} {v : Value} {L : List (Option Value)} (h : LR ls n L) (hv : v.category = 1) (h' : lv_has ls' n ((i, v) :: (lp L).filter (fun q => !(q.1 == i) && !(q.1 + 1 == i && q.2.category == 2)))) : LR ls' n (L.set i (some v)) := by
  refine ⟨h'.1, h'.2.1, fun j w hj => ?_⟩
  by_cases e : j = i
  · subst e
    rw [List.getElem?_set_self'] at hj
    cases hL : L[j]? with
    | none => rw [hL] at hj; simp at hj
    | some z =>
      rw [hL] at hj
      simp at hj
      subst hj
      exact ⟨h'.2.2 (j, v) List.mem_cons_self, hv⟩
  · rw [List.getElem?_set_ne (Ne.symm e)] at hj
    have hc := (h.2.2 j w hj).2
    refine ⟨h'.2.2 (j, w) (List.mem_cons_of_mem _ (List.mem_filter.mpr ⟨lp_mem.mpr hj, ?_⟩)), hc⟩
    simp [e, hc]
/-- THE JUDGEMENT: from pc, with locals L, stack st and heap state X, having made k.1 cells of k.2 slots, the method comes to Z -/
def J (Γ : GTy) (μ : MTy) (R : Room) (Z : List Frame → Array Value → State → State → Prop) (k : Nat × Nat) (pc : Nat) (L : List (Option Value)) (st : List Value) (X : HS) : Prop :=
  ∀ (p : Program) (e : Env) (s : State) (m : MethodId) (args : Array Value) (below : List Frame) (meth : Method) (c : Code) (H : Heap) (locs : List Loc) (ls : Array Slot),
    Cx Γ μ p s m args meth c → va_S (gA Γ) s.heap H locs → Rp Γ X H → LR ls (mL μ) L → W p (gl Γ) e R s m args below meth c H locs k.1 k.2 (Z below args s) (F0 m pc ls st)
/-- with an exception of class E thrown at pc -/
def JX (Γ : GTy) (μ : MTy) (R : Room) (Z : List Frame → Array Value → State → State → Prop) (E : String) (k : Nat × Nat) (pc : Nat) (L : List (Option Value)) (X : HS) : Prop :=
  ∀ (p : Program) (e : Env) (s : State) (m : MethodId) (args : Array Value) (below : List Frame) (meth : Method) (c : Code) (H : Heap) (locs : List Loc) (ls : Array Slot) (q : Nat) (x : Cell) (rest : List Value),
    Cx Γ μ p s m args meth c → va_S (gA Γ) s.heap H locs → Rp Γ X H → LR ls (mL μ) L → H[q]? = some x → x.vm = .none → s.vm.findClass E = some x.cls → vx_W p (gl Γ) e R s m args below meth c H locs k.1 k.2 (Z below args s) (F0 m pc ls rest) q
def Qo (Γ : GTy) (QV : Option Value → HS → Prop) : Array Value → State → Outcome → State → Prop := fun _ st o t => (∃ (v : Option Value) (X' : HS), o = .returned v ∧ QV v X' ∧ Rp Γ X' t.heap) ∧ va_F (gA Γ) st t
def Xo (Γ : GTy) (QX : String → HS → Prop) : String → State → State → Prop := fun E st t => ∃ X' : HS, QX E X' ∧ Rp Γ X' t.heap ∧ va_F (gA Γ) st t
/-- a method's end: returned with QV, or thrown with QX -/
def Zx (Γ : GTy) (μ : MTy) (QV : Option Value → HS → Prop) (QX : String → HS → Prop) : List Frame → Array Value → State → State → Prop := fun below args s => vx_MQ below (Qo Γ QV) (Xo Γ QX) args s (mM μ) (mS μ) (gA Γ)
/-- a method's end: returned with QV -/
def Zn (Γ : GTy) (μ : MTy) (QV : Option Value → HS → Prop) : List Frame → Array Value → State → State → Prop := fun below args s => MQ below (Qo Γ QV) args s (mM μ) (mS μ) (gA Γ)
def St (Γ : GTy) (X : HS) : State → Prop := fun U => GF Γ U ∧ Rp Γ X U.heap
/-- CONTRACTS: may throw; never throws; may throw, with a table of handlers -/
def Ct (Γ : GTy) (ν : MTy) (as : List Value) (X : HS) (QV : Option Value → HS → Prop) (QX : String → HS → Prop) : Prop :=
  vx_Met (gl Γ) (mN ν) (.code (mN ν) (mC ν) (mL ν) (mR ν) :: BW) (rm ν) (va_Pc as (St Γ X)) (Qo Γ QV) (Xo Γ QX) (mM ν) (mS ν) (gA Γ)
def Cn (Γ : GTy) (ν : MTy) (as : List Value) (X : HS) (QV : Option Value → HS → Prop) : Prop :=
  Met (gl Γ) (mN ν) (.code (mN ν) (mC ν) (mL ν) (mR ν) :: BW) (rm ν) (va_Pc as (St Γ X)) (Qo Γ QV) (mM ν) (mS ν) (gA Γ)
def Cw (Γ : GTy) (ν : MTy) (as : List Value) (X : HS) (QV : Option Value → HS → Prop) (QX : String → HS → Prop) : Prop :=
  vx_Met (gl Γ) (mN ν) (.codeWith (mN ν) (mC ν) (mL ν) (mR ν) (mH ν) :: BW) (rm ν) (va_Pc as (St Γ X)) (Qo Γ QV) (Xo Γ QX) (mM ν) (mS ν) (gA Γ)
