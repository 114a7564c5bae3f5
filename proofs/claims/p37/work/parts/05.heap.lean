-- ===== rows that read and write the heap =====
theorem va_pl_at {L : List Nat} {f : Nat → va_E} {a : Nat} (h : a ∈ L) : ∃ k : Nat, (va_pl L f)[k]? = some (a, f a) := va_pl_get (X := []) h
theorem fl_len (X : HS) (c a : Nat) : (fl X c a).length = nf c := by simp [fl]
theorem fl_at (X : HS) {c a i : Nat} (h : i < nf c) : (fl X c a)[i]? = some (gv X c i a) := by simp [fl, h]
/-- an object's cell in the world -/
theorem ce_obj {cy : Nat → ClassId} {X : HS} {a c : Nat} (hc : c < 9) (h : xK X a = c) : ce cy X a = .inr (c, fl X c a) := by
  unfold ce
  rw [h, if_pos hc]
theorem ce_arr {cy : Nat → ClassId} {X : HS} {a c : Nat} (hc : 10 ≤ c) (h : xK X a = c) : ce cy X a = .inl (cy c, xn X a, if c < 12 then .inl (xA X a) else if c = 18 then .inr (.inl (xJ X a)) else .inr (.inr (.inr (.inr (xP X a))))) := by
  unfold ce
  rw [h, if_neg (by omega)]
theorem cl_all : ∀ c, c < 9 → clOk c := by
  intro c hc
  have h : c = 0 ∨ c = 1 ∨ c = 2 ∨ c = 3 ∨ c = 4 ∨ c = 5 ∨ c = 6 ∨ c = 7 ∨ c = 8 := by omega
  rcases h with rfl | rfl | rfl | rfl | rfl | rfl | rfl | rfl | rfl
  · exact ⟨RX0, TX0, rfl, by decide +kernel, tyX0_ok, nmX0⟩
  · exact ⟨RX1, TX1, rfl, by decide +kernel, tyX1_ok, nmX1⟩
  · exact ⟨RX2, TX2, rfl, by decide +kernel, tyX2_ok, nmX2⟩
  · exact ⟨RX3, TX3, rfl, by decide +kernel, tyX3_ok, nmX3⟩
  · exact ⟨RX4, TX4, rfl, by decide +kernel, tyX4_ok, nmX4⟩
  · exact ⟨RX5, TX5, rfl, by decide +kernel, tyX5_ok, nmX5⟩
  · exact ⟨RX7, TX7, rfl, by decide +kernel, tyX7_ok, nmX7⟩
  · exact ⟨RX8, TX8, rfl, by decide +kernel, tyX8_ok, nmX8⟩
  · exact ⟨RX9, TX9, rfl, by decide +kernel, tyX9_ok, nmX9⟩
/-- the entry idx of own's pool links the field k of the class ci -/
def FL (own : String) (idx ci i : Nat) : Prop := ∃ (C : String) (T : u_T) (ref : String), vwCl[ci]? = some (C, T, nf ci) ∧ ci < 9 ∧ i < nf ci ∧ Cond.fieldLink own idx ref (T i).2.1 (T i).2.2.1 ∈ BW ∧ (ref = (T i).1 ∨ Cond.sameField ref (T i).1 (T i).2.1 (T i).2.2.1 ∈ BW)
/-- .. and it isn't final; .. or it is own's -/
def FW (ci i : Nat) : Prop := ∀ (C : String) (T : u_T), vwCl[ci]? = some (C, T, nf ci) → (T i).2.2.2 = false
def FF (own : String) (ci i : Nat) : Prop := ∀ (C : String) (T : u_T), vwCl[ci]? = some (C, T, nf ci) → (T i).2.2.2 = true ∧ (T i).1 = own
theorem fl_intro {own : String} {idx ci i : Nat} {C : String} {T : u_T} (ref : String) (h1 : vwCl[ci]? = some (C, T, nf ci)) (h2 : ci < 9) (h3 : i < nf ci) (h4 : Cond.fieldLink own idx ref (T i).2.1 (T i).2.2.1 ∈ BW) (h5 : ref = (T i).1 ∨ Cond.sameField ref (T i).1 (T i).2.1 (T i).2.2.1 ∈ BW) : FL own idx ci i := ⟨C, T, ref, h1, h2, h3, h4, h5⟩
theorem same_of {args : Array Value} {s : State} {T : u_T} {ref : String} {i : Nat} (hts : ∀ w ∈ BW, w.before args s = true) (h5 : ref = (T i).1 ∨ Cond.sameField ref (T i).1 (T i).2.1 (T i).2.2.1 ∈ BW) : ∀ x, s.fieldFound? (T i).1 (T i).2.1 (T i).2.2.1 = some x → s.fieldFound? ref (T i).2.1 (T i).2.2.1 = some x := by
  intro x hx
  rcases h5 with h | h
  · rw [h]; exact hx
  · exact u_same (hts _ h) x hx
section HW
variable {Γ : GTy} {μ : MTy} {R : Room} {Z : List Frame → Array Value → State → State → Prop} {k : Nat × Nat} {pc : Nat} {L : List (Option Value)} {st : List Value} {X : HS}
theorem J_getV {idx c i a : Nat} (hF : FL (mN μ).cls idx c i) (hk : xK X a = c) (hd : decode (mC μ) pc = .ok (.getfield idx, 3)) (kk : J Γ μ R Z k (pc + 3) L (gv X c i a :: st) X) : J Γ μ R Z k pc L (.ref a :: st) X := by
  intro p e s m args below meth c' H locs ls C S P Lr
  obtain ⟨C0, T, ref, h1, h2, h3, h4, h5⟩ := hF
  obtain ⟨C1, T1, g1, g2, -, -⟩ := cl_all c h2
  cases h1.symm.trans g1
  obtain ⟨q, hq⟩ := va_pl_at (f := ce (gc Γ) X) (P.mem (a := a) (by omega))
  rw [ce_obj h2 hk] at hq
  obtain ⟨x1, x2, x3, x4, x5, x6, x7, x8, x9, x10⟩ := C
  exact va_get x1 x2 x9 g2 x7 x10.1 P.1 q hq h1 i h3 (x9 _ h4) (same_of x9 h5) (fl_at X h3) hd (kk p e s m args below meth c' H locs ls ⟨x1, x2, x3, x4, x5, x6, x7, x8, x9, x10⟩ S P Lr)
theorem J_getI {idx c i a : Nat} (hF : FL (mN μ).cls idx c i) (hk : xK X a = c) (hr : rf c i = false) (hd : decode (mC μ) pc = .ok (.getfield idx, 3)) (kk : J Γ μ R Z k (pc + 3) L (.int (xI X c i a) :: st) X) : J Γ μ R Z k pc L (.ref a :: st) X :=
  J_getV hF hk hd (by unfold gv; rw [hr]; exact kk)
theorem J_getR {idx c i a : Nat} (hF : FL (mN μ).cls idx c i) (hk : xK X a = c) (hr : rf c i = true) (hd : decode (mC μ) pc = .ok (.getfield idx, 3)) (kn : xR X c i a = none → J Γ μ R Z k (pc + 3) L (.null :: st) X) (kk : ∀ r : Nat, xR X c i a = some r → J Γ μ R Z k (pc + 3) L (.ref r :: st) X) : J Γ μ R Z k pc L (.ref a :: st) X := by
  refine J_getV hF hk hd ?_
  unfold gv
  rw [hr]
  cases h : xR X c i a with
  | none => exact kn h
  | some r => exact kk r h
theorem J_getS {idx c i a r : Nat} (hF : FL (mN μ).cls idx c i) (hk : xK X a = c) (hr : rf c i = true) (h : xR X c i a = some r) (hd : decode (mC μ) pc = .ok (.getfield idx, 3)) (kk : J Γ μ R Z k (pc + 3) L (.ref r :: st) X) : J Γ μ R Z k pc L (.ref a :: st) X := by
  refine J_getV hF hk hd ?_
  unfold gv
  rw [hr, if_pos rfl, h]
  exact kk
theorem J_getN {idx c i a : Nat} (hF : FL (mN μ).cls idx c i) (hk : xK X a = c) (hr : rf c i = true) (h : xR X c i a = none) (hd : decode (mC μ) pc = .ok (.getfield idx, 3)) (kk : J Γ μ R Z k (pc + 3) L (.null :: st) X) : J Γ μ R Z k pc L (.ref a :: st) X := by
  refine J_getV hF hk hd ?_
  unfold gv
  rw [hr, if_pos rfl, h]
  exact kk
theorem ce_up {cy : Nat → ClassId} {X X' : HS} {a c i : Nat} {v : Value} (hc : c < 9) (hk : xK X a = c) (h1 : xK X' = xK X) (hi : i < nf c) (hv : gv X' c i a = v) (ho : ∀ j, j < nf c → j ≠ i → gv X' c j a = gv X c j a) (hq : ∀ b, b ≠ a → ∀ c' j, gv X' c' j b = gv X c' j b) (hn : xn X' = xn X) (hA : xA X' = xA X) (hJ : xJ X' = xJ X) (hP : xP X' = xP X) :
    ∀ b, va_up (ce cy X) a (.inr (c, (fl X c a).set i v)) b = ce cy X' b := by
  intro b
  by_cases hb : b = a
  · subst hb
    rw [va_up_self, ce_obj hc (by rw [h1]; exact hk)]
    refine congrArg (fun l => Sum.inr (c, l)) ?_
    apply List.ext_getElem?
    intro j
    by_cases hj : j < nf c
    · rw [fl_at X' hj]
      by_cases e : j = i
      · subst e
        rw [List.getElem?_set_self (by rw [fl_len]; exact hj), hv]
      · rw [List.getElem?_set_ne (Ne.symm e), fl_at X hj, ho j hj e]
    · rw [List.getElem?_eq_none (by rw [List.length_set, fl_len]; omega), List.getElem?_eq_none (by rw [fl_len]; omega)]
  · rw [va_up_ne _ _ hb]
    have e : fl X' (xK X b) b = fl X (xK X b) b := by
      unfold fl
      exact List.map_congr_left (fun j _ => hq b hb _ j)
    unfold ce
    rw [h1, e, hn, hA, hJ, hP]
/-- a field is put: what the two rows for ints and references share -/
theorem J_putV {idx c i a : Nat} {v : Value} {X' : HS} (hF : FL (mN μ).cls idx c i) (hW : FW c i ∨ (FF (mN μ).cls c i ∧ (mN μ).name = "<init>")) (hk : xK X a = c) (hn : narrow (ft c i) v = v) (hf : fits (ft c i) v = true) (hx : ∀ cy b, va_up (ce cy X) a (.inr (c, (fl X c a).set i v)) b = ce cy X' b) (hl : xL X' = xL X) (hK : xK X' = xK X)
    (hd : decode (mC μ) pc = .ok (.putfield idx, 3)) (kk : J Γ μ R Z k (pc + 3) L st X') : J Γ μ R Z k pc L (v :: .ref a :: st) X := by
  intro p e s m args below meth c' H locs ls C S P Lr
  obtain ⟨C0, T, ref, h1, h2, h3, h4, h5⟩ := hF
  obtain ⟨C1, T1, g1, g2, g3, g4⟩ := cl_all c h2
  cases h1.symm.trans g1
  have hm := P.mem (a := a) (by omega)
  obtain ⟨q, hq⟩ := va_pl_at (f := ce (gc Γ) X) hm
  have hq' := hq
  rw [ce_obj h2 hk] at hq
  obtain ⟨x1, x2, x3, x4, x5, x6, x7, x8, x9, x10⟩ := id C
  have e9 : (va_pl (xL X) (ce (gc Γ) X)).set q (a, .inr (c, (fl X c a).set i v)) = va_pl (xL X') (ce (gc Γ) X') := by
    have := va_pl_set (X := []) (e := .inr (c, (fl X c a).set i v)) P.2.1 hm hq'
    rw [List.nil_append, List.nil_append] at this
    rw [this, va_pl_congr (hx _), hl]
  have fin : ∀ (H1 : Heap) (locs1 : List Loc), va_P (gD Γ) vwCl ((va_pl (xL X) (ce (gc Γ) X)).set q (a, .inr (c, (fl X c a).set i v))) H1 → va_D (gA Γ) ((va_pl (xL X) (ce (gc Γ) X)).set q (a, .inr (c, (fl X c a).set i v))) → va_S (gA Γ) s.heap H1 locs1 → W p (gl Γ) e R s m args below meth c' H1 locs1 k.1 k.2 (Z below args s) (F0 m (pc + 3) ls st) := by
    intro H1 locs1 b1 b2 b3
    rw [e9] at b1 b2
    exact kk p e s m args below meth c' H1 locs1 ls C b3 ⟨b1, b2, by rw [hl, hK]; exact P.2.2⟩ Lr
  rcases hW with hW | ⟨hW, hin⟩
  · exact va_put x1 x2 x9 g2 (ft c) g3 g4 x7 x10.1 P.1 P.2.1 S q hq h1 i h3 (x9 _ h4) (same_of x9 h5) (hW _ _ h1) (g3 i h3) hn hf (by rw [fl_len]; exact h3) hd fin
  · exact va_putF x1 x2 x9 g2 (ft c) g3 g4 x7 x10.1 P.1 P.2.1 S q hq h1 i h3 (x9 _ h4) (same_of x9 h5) (hW _ _ h1).1 (x8.trans hin) (hW _ _ h1).2 (g3 i h3) hn hf (by rw [fl_len]; exact h3) hd fin
theorem gv_sI {X : HS} {c i a : Nat} {v : Int32} (c' j b : Nat) : gv (sI X c i a v) c' j b = if rf c' j = true then va_rf (xR X c' j b) else .int (if c' = c ∧ j = i ∧ b = a then v else xI X c' j b) := rfl
theorem gv_sR {X : HS} {c i a : Nat} {v : Option Nat} (c' j b : Nat) : gv (sR X c i a v) c' j b = if rf c' j = true then va_rf (if c' = c ∧ j = i ∧ b = a then v else xR X c' j b) else .int (xI X c' j b) := rfl
theorem J_putI0 {idx c i a : Nat} {v : Int32} (hF : FL (mN μ).cls idx c i) (hW : FW c i ∨ (FF (mN μ).cls c i ∧ (mN μ).name = "<init>")) (hk : xK X a = c) (hr : rf c i = false) (hn : narrow (ft c i) (.int v) = .int v) (hf : fits (ft c i) (.int v) = true) (hd : decode (mC μ) pc = .ok (.putfield idx, 3)) (kk : J Γ μ R Z k (pc + 3) L st (sI X c i a v)) : J Γ μ R Z k pc L (.int v :: .ref a :: st) X := by
  obtain ⟨C0, T, ref, h1, h2, h3, h4, h5⟩ := id hF
  refine J_putV (X' := sI X c i a v) hF hW hk hn hf (fun cy => ce_up h2 hk rfl h3 ?_ ?_ ?_ rfl rfl rfl rfl) rfl rfl hd kk
  · rw [gv_sI, hr]; simp
  · intro j hj e
    rw [gv_sI]; simp [gv, e]
  · intro b hb c' j
    rw [gv_sI]; simp [gv, hb]
theorem J_putI {idx c i a : Nat} {v : Int32} (hF : FL (mN μ).cls idx c i) (hW : FW c i) (hk : xK X a = c) (ht : ft c i = .int) (hd : decode (mC μ) pc = .ok (.putfield idx, 3)) (kk : J Γ μ R Z k (pc + 3) L st (sI X c i a v)) : J Γ μ R Z k pc L (.int v :: .ref a :: st) X :=
  J_putI0 hF (Or.inl hW) hk (by unfold rf; rw [ht]) (by rw [ht]; rfl) (by rw [ht]; rfl) hd kk
theorem bool_ok {v : Int32} (h : v = 0 ∨ v = 1) : narrow .boolean (.int v) = .int v ∧ fits .boolean (.int v) = true := by
  rcases h with rfl | rfl <;> exact ⟨by decide, by decide⟩
theorem J_putZ {idx c i a : Nat} {v : Int32} (hF : FL (mN μ).cls idx c i) (hW : FW c i) (hk : xK X a = c) (ht : ft c i = .boolean) (hv : v = 0 ∨ v = 1) (hd : decode (mC μ) pc = .ok (.putfield idx, 3)) (kk : J Γ μ R Z k (pc + 3) L st (sI X c i a v)) : J Γ μ R Z k pc L (.int v :: .ref a :: st) X :=
  J_putI0 hF (Or.inl hW) hk (by unfold rf; rw [ht]) (by rw [ht]; exact (bool_ok hv).1) (by rw [ht]; exact (bool_ok hv).2) hd kk
theorem J_putIF {idx c i a : Nat} {v : Int32} (hF : FL (mN μ).cls idx c i) (hW : FF (mN μ).cls c i) (hin : (mN μ).name = "<init>") (hk : xK X a = c) (ht : ft c i = .int) (hd : decode (mC μ) pc = .ok (.putfield idx, 3)) (kk : J Γ μ R Z k (pc + 3) L st (sI X c i a v)) : J Γ μ R Z k pc L (.int v :: .ref a :: st) X :=
  J_putI0 hF (Or.inr ⟨hW, hin⟩) hk (by unfold rf; rw [ht]) (by rw [ht]; rfl) (by rw [ht]; rfl) hd kk
theorem J_putZF {idx c i a : Nat} {v : Int32} (hF : FL (mN μ).cls idx c i) (hW : FF (mN μ).cls c i) (hin : (mN μ).name = "<init>") (hk : xK X a = c) (ht : ft c i = .boolean) (hv : v = 0 ∨ v = 1) (hd : decode (mC μ) pc = .ok (.putfield idx, 3)) (kk : J Γ μ R Z k (pc + 3) L st (sI X c i a v)) : J Γ μ R Z k pc L (.int v :: .ref a :: st) X :=
  J_putI0 hF (Or.inr ⟨hW, hin⟩) hk (by unfold rf; rw [ht]) (by rw [ht]; exact (bool_ok hv).1) (by rw [ht]; exact (bool_ok hv).2) hd kk
theorem rf_ok {c i : Nat} (h : rf c i = true) (o : Option Nat) (hs : ∀ t, ft c i = t → t = .int ∨ t = .boolean ∨ (∃ n, t = .object n) ∨ ∃ n, t = .array n) : narrow (ft c i) (va_rf o) = va_rf o ∧ fits (ft c i) (va_rf o) = true := by
  rcases hs _ rfl with e | e | ⟨n, e⟩ | ⟨n, e⟩
  · unfold rf at h; rw [e] at h; cases h
  · unfold rf at h; rw [e] at h; cases h
  · rw [e]; cases o <;> exact ⟨rfl, rfl⟩
  · rw [e]; cases o <;> exact ⟨rfl, rfl⟩
theorem J_putR0 {idx c i a : Nat} {o : Option Nat} {v : Value} (hv : va_rf o = v) (hF : FL (mN μ).cls idx c i) (hW : FW c i ∨ (FF (mN μ).cls c i ∧ (mN μ).name = "<init>")) (hk : xK X a = c) (hr : rf c i = true) (hs : ∀ t, ft c i = t → t = .int ∨ t = .boolean ∨ (∃ n, t = .object n) ∨ ∃ n, t = .array n) (hd : decode (mC μ) pc = .ok (.putfield idx, 3)) (kk : J Γ μ R Z k (pc + 3) L st (sR X c i a o)) : J Γ μ R Z k pc L (v :: .ref a :: st) X := by
  obtain ⟨C0, T, ref, h1, h2, h3, h4, h5⟩ := id hF
  subst hv
  obtain ⟨n1, n2⟩ := rf_ok hr o hs
  refine J_putV (X' := sR X c i a o) hF hW hk n1 n2 (fun cy => ce_up h2 hk rfl h3 ?_ ?_ ?_ rfl rfl rfl rfl) rfl rfl hd kk
  · rw [gv_sR, hr]; simp
  · intro j hj e
    rw [gv_sR]; simp [gv, e]
  · intro b hb c' j
    rw [gv_sR]; simp [gv, hb]
theorem J_putR {idx c i a : Nat} {o : Option Nat} {v : Value} (hv : va_rf o = v) (hF : FL (mN μ).cls idx c i) (hW : FW c i) (hk : xK X a = c) {n : String} (ht : ft c i = .object n) (hd : decode (mC μ) pc = .ok (.putfield idx, 3)) (kk : J Γ μ R Z k (pc + 3) L st (sR X c i a o)) : J Γ μ R Z k pc L (v :: .ref a :: st) X :=
  J_putR0 hv hF (Or.inl hW) hk (by unfold rf; rw [ht]) (fun t h => Or.inr (Or.inr (Or.inl ⟨n, by rw [← h]; exact ht⟩))) hd kk
theorem J_putRF {idx c i a : Nat} {o : Option Nat} {v : Value} (hv : va_rf o = v) (hF : FL (mN μ).cls idx c i) (hW : FF (mN μ).cls c i) (hin : (mN μ).name = "<init>") (hk : xK X a = c) {n : String} (ht : ft c i = .object n) (hd : decode (mC μ) pc = .ok (.putfield idx, 3)) (kk : J Γ μ R Z k (pc + 3) L st (sR X c i a o)) : J Γ μ R Z k pc L (v :: .ref a :: st) X :=
  J_putR0 hv hF (Or.inr ⟨hW, hin⟩) hk (by unfold rf; rw [ht]) (fun t h => Or.inr (Or.inr (Or.inl ⟨n, by rw [← h]; exact ht⟩))) hd kk
theorem J_putAF {idx c i a : Nat} {o : Option Nat} {v : Value} (hv : va_rf o = v) (hF : FL (mN μ).cls idx c i) (hW : FF (mN μ).cls c i) (hin : (mN μ).name = "<init>") (hk : xK X a = c) {n : FieldType} (ht : ft c i = .array n) (hd : decode (mC μ) pc = .ok (.putfield idx, 3)) (kk : J Γ μ R Z k (pc + 3) L st (sR X c i a o)) : J Γ μ R Z k pc L (v :: .ref a :: st) X :=
  J_putR0 hv hF (Or.inr ⟨hW, hin⟩) hk (by unfold rf; rw [ht]) (fun t h => Or.inr (Or.inr (Or.inr ⟨n, by rw [← h]; exact ht⟩))) hd kk
-- arrays
def tyI : Nat → Nat := fun c => c - 10
theorem ty_at (cy : Nat → ClassId) : (tyL cy)[0]? = some (cy 10, .int) ∧ (tyL cy)[1]? = some (cy 11, .boolean) ∧ ∀ c, 12 ≤ c → c < 18 → (tyL cy)[c - 10]? = some (cy c, .object (eC c)) := by
  refine ⟨rfl, rfl, fun c h1 h2 => ?_⟩
  have h : c = 12 ∨ c = 13 ∨ c = 14 ∨ c = 15 ∨ c = 16 ∨ c = 17 := by omega
  rcases h with rfl | rfl | rfl | rfl | rfl | rfl <;> rfl
theorem ix_in {j n : Nat} (hj : j < n) (h2 : j < 2 ^ 31) : vp_in (nI j) n := by
  unfold vp_in
  rw [nI_clamp h2]
  intro h
  rcases h with h | h
  · exact nI_pos h2 h
  · omega
theorem Rp.arr {H : Heap} (P : Rp Γ X H) {a c : Nat} (hc : 10 ≤ c) (hk : xK X a = c) (h9 : c ≠ 99) : ∃ q : Nat, (va_pl (xL X) (ce (gc Γ) X))[q]? = some (a, ce (gc Γ) X a) ∧ (va_pl (xL X) (ce (gc Γ) X))[q]? = some (a, .inl (gc Γ c, xn X a, if c < 12 then .inl (xA X a) else if c = 18 then .inr (.inl (xJ X a)) else .inr (.inr (.inr (.inr (xP X a)))))) := by
  obtain ⟨q, hq⟩ := va_pl_at (f := ce (gc Γ) X) (P.mem (a := a) (by omega))
  refine ⟨q, hq, ?_⟩
  rw [ce_arr hc hk] at hq
  exact hq
theorem J_alen {a c : Nat} {v : Int32} (hc : 10 ≤ c ∧ c ≤ 17) (hk : xK X a = c) (hv : nI (xn X a) = v) (hd : decode (mC μ) pc = .ok (.arraylength, 1)) (kk : J Γ μ R Z k (pc + 1) L (.int v :: st) X) : J Γ μ R Z k pc L (.ref a :: st) X := by
  intro p e s m args below meth c' H locs ls C S P Lr
  obtain ⟨q, -, hq⟩ := P.arr hc.1 hk (by omega)
  obtain ⟨t0, t1, tt⟩ := ty_at (gc Γ)
  obtain ⟨x1, x2, x3, x4, x5, x6, x7, x8, x9, x10⟩ := id C
  have K := kk p e s m args below meth c' H locs ls C S P Lr
  have h : c = 10 ∨ c = 11 ∨ (12 ≤ c ∧ c < 18) := by omega
  rcases h with rfl | rfl | ⟨h1, h2⟩
  · exact va_alen x1 x2 x10.1 P.1 q 0 hq t0 hv hd K
  · exact va_alen x1 x2 x10.1 P.1 q 1 hq t1 hv hd K
  · exact va_alen x1 x2 x10.1 P.1 q (c - 10) hq (tt c h1 h2) hv hd K
theorem J_iald {a j : Nat} {i : Int32} (hk : xK X a = 10) (hi : i = nI j) (hj : j < xn X a) (h2 : j < 2 ^ 31) (hd : decode (mC μ) pc = .ok (.iaload, 1)) (kk : J Γ μ R Z k (pc + 1) L (.int (xA X a j) :: st) X) : J Γ μ R Z k pc L (.int i :: .ref a :: st) X := by
  intro p e s m args below meth c' H locs ls C S P Lr
  obtain ⟨q, -, hq⟩ := P.arr (by decide) hk (by decide)
  obtain ⟨x1, x2, x3, x4, x5, x6, x7, x8, x9, x10⟩ := id C
  subst hi
  have K := kk p e s m args below meth c' H locs ls C S P Lr
  exact va_iald x1 x2 x10.1 P.1 q 0 (f := xA X a) hq (ty_at (gc Γ)).1 (ix_in hj h2) hd (by rw [nI_clamp h2]; exact K)
theorem J_bald {a j : Nat} {i : Int32} (hk : xK X a = 11) (hi : i = nI j) (hj : j < xn X a) (h2 : j < 2 ^ 31) (hd : decode (mC μ) pc = .ok (.baload, 1)) (kk : J Γ μ R Z k (pc + 1) L (.int (xA X a j) :: st) X) : J Γ μ R Z k pc L (.int i :: .ref a :: st) X := by
  intro p e s m args below meth c' H locs ls C S P Lr
  obtain ⟨q, -, hq⟩ := P.arr (by decide) hk (by decide)
  obtain ⟨x1, x2, x3, x4, x5, x6, x7, x8, x9, x10⟩ := id C
  subst hi
  have K := kk p e s m args below meth c' H locs ls C S P Lr
  exact va_zald x1 x2 x10.1 P.1 q 1 (f := xA X a) hq (ty_at (gc Γ)).2.1 (ix_in hj h2) hd (by rw [nI_clamp h2]; exact K)
theorem J_aaldV {a j c : Nat} {i : Int32} (hk : xK X a = c) (hc : 12 ≤ c ∧ c < 18) (hi : i = nI j) (hj : j < xn X a) (h2 : j < 2 ^ 31) (hd : decode (mC μ) pc = .ok (.aaload, 1)) (kk : J Γ μ R Z k (pc + 1) L (va_rf (xP X a j) :: st) X) : J Γ μ R Z k pc L (.int i :: .ref a :: st) X := by
  intro p e s m args below meth c' H locs ls C S P Lr
  obtain ⟨q, -, hq⟩ := P.arr (by omega) hk (by omega)
  rw [if_neg (by omega), if_neg (by omega)] at hq
  obtain ⟨x1, x2, x3, x4, x5, x6, x7, x8, x9, x10⟩ := id C
  subst hi
  have K := kk p e s m args below meth c' H locs ls C S P Lr
  exact va_aldq x1 x2 x10.1 P.1 q (c - 10) (f := xP X a) hq ((ty_at (gc Γ)).2.2 c hc.1 hc.2) (ix_in hj h2) hd (by rw [nI_clamp h2]; exact K)
theorem J_aald {a j c : Nat} {i : Int32} (hk : xK X a = c) (hc : 12 ≤ c ∧ c < 18) (hi : i = nI j) (hj : j < xn X a) (h2 : j < 2 ^ 31) (hd : decode (mC μ) pc = .ok (.aaload, 1)) (kn : xP X a j = none → J Γ μ R Z k (pc + 1) L (.null :: st) X) (kk : ∀ r : Nat, xP X a j = some r → J Γ μ R Z k (pc + 1) L (.ref r :: st) X) : J Γ μ R Z k pc L (.int i :: .ref a :: st) X := by
  refine J_aaldV hk hc hi hj h2 hd ?_
  cases h : xP X a j with
  | none => exact kn h
  | some r => exact kk r h
theorem J_aaldS {a j c r : Nat} {i : Int32} (hk : xK X a = c) (hc : 12 ≤ c ∧ c < 18) (hi : i = nI j) (hj : j < xn X a) (h2 : j < 2 ^ 31) (h : xP X a j = some r) (hd : decode (mC μ) pc = .ok (.aaload, 1)) (kk : J Γ μ R Z k (pc + 1) L (.ref r :: st) X) : J Γ μ R Z k pc L (.int i :: .ref a :: st) X := by
  refine J_aaldV hk hc hi hj h2 hd ?_
  rw [h]
  exact kk
theorem ce_upA {cy : Nat → ClassId} {X X' : HS} {a c : Nat} {x : va_E} (hk : xK X a = c) (hc : 10 ≤ c) (h1 : xK X' = xK X) (hg : ∀ c' j b, gv X' c' j b = gv X c' j b) (hn : xn X' = xn X) (hx : ce cy X' a = x) (hA : ∀ b, b ≠ a → xA X' b = xA X b) (hJ : ∀ b, b ≠ a → xJ X' b = xJ X b) (hP : ∀ b, b ≠ a → xP X' b = xP X b) :
    ∀ b, va_up (ce cy X) a x b = ce cy X' b := by
  intro b
  by_cases hb : b = a
  · subst hb
    rw [va_up_self, hx]
  · rw [va_up_ne _ _ hb]
    have e : fl X' (xK X b) b = fl X (xK X b) b := by
      unfold fl
      exact List.map_congr_left (fun j _ => hg _ j b)
    unfold ce
    rw [h1, e, hn, hA b hb, hJ b hb, hP b hb]
theorem Rp.put {H1 : Heap} {H : Heap} (P : Rp Γ X H) {X' : HS} {a q : Nat} {x : va_E} (hm : a ∈ xL X) (hq : (va_pl (xL X) (ce (gc Γ) X))[q]? = some (a, ce (gc Γ) X a)) (hx : ∀ b, va_up (ce (gc Γ) X) a x b = ce (gc Γ) X' b) (hl : xL X' = xL X) (hK : xK X' = xK X) (b1 : va_P (gD Γ) vwCl ((va_pl (xL X) (ce (gc Γ) X)).set q (a, x)) H1) (b2 : va_D (gA Γ) ((va_pl (xL X) (ce (gc Γ) X)).set q (a, x))) : Rp Γ X' H1 := by
  have e : (va_pl (xL X) (ce (gc Γ) X)).set q (a, x) = va_pl (xL X') (ce (gc Γ) X') := by
    have := va_pl_set (X := []) (e := x) P.2.1 hm hq
    rw [List.nil_append, List.nil_append] at this
    rw [this, va_pl_congr hx, hl]
  rw [e] at b1 b2
  exact ⟨b1, b2, by rw [hl, hK]; exact P.2.2⟩
theorem u2_at {α : Type} (f : Nat → Nat → α) (a i : Nat) (v : α) : u2 f a i v a = fun i' => if i' = i then v else f a i' := by
  funext i'
  simp [u2]
theorem u2_ne {α : Type} (f : Nat → Nat → α) {a b : Nat} (i : Nat) (v : α) (h : b ≠ a) : u2 f a i v b = f b := by
  funext i'
  simp [u2, h]
theorem J_iast {a j : Nat} {i x : Int32} (hk : xK X a = 10) (hi : i = nI j) (hj : j < xn X a) (h2 : j < 2 ^ 31) (hd : decode (mC μ) pc = .ok (.iastore, 1)) (kk : J Γ μ R Z k (pc + 1) L st (sA X a j x)) : J Γ μ R Z k pc L (.int x :: .int i :: .ref a :: st) X := by
  intro p e s m args below meth c' H locs ls C S P Lr
  obtain ⟨q, hq0, hq⟩ := P.arr (by decide) hk (by decide)
  obtain ⟨x1, x2, x3, x4, x5, x6, x7, x8, x9, x10⟩ := id C
  subst hi
  refine va_iast x1 x2 x10.1 P.1 P.2.1 S q 0 (f := xA X a) hq (ty_at (gc Γ)).1 (ix_in hj h2) hd (fun H1 locs1 b1 b2 b3 => ?_)
  refine kk p e s m args below meth c' H1 locs1 ls C b3 (P.put (X' := sA X a j x) (P.mem (by omega)) hq0 (ce_upA hk (by decide) rfl (fun _ _ _ => rfl) rfl ?_ (fun b hb => u2_ne _ _ _ hb) (fun _ _ => rfl) (fun _ _ => rfl)) rfl rfl b1 b2) Lr
  rw [ce_arr (by decide) (show xK (sA X a j x) a = 10 from hk), if_pos (by decide), nI_clamp h2]
  refine congrArg (fun f => Sum.inl (gc Γ 10, xn X a, Sum.inl f)) ?_
  exact u2_at _ _ _ _
theorem J_bast {a j : Nat} {i x : Int32} (hk : xK X a = 11) (hi : i = nI j) (hj : j < xn X a) (h2 : j < 2 ^ 31) (hx : x = 0 ∨ x = 1) (hd : decode (mC μ) pc = .ok (.bastore, 1)) (kk : J Γ μ R Z k (pc + 1) L st (sA X a j x)) : J Γ μ R Z k pc L (.int x :: .int i :: .ref a :: st) X := by
  intro p e s m args below meth c' H locs ls C S P Lr
  obtain ⟨q, hq0, hq⟩ := P.arr (by decide) hk (by decide)
  obtain ⟨x1, x2, x3, x4, x5, x6, x7, x8, x9, x10⟩ := id C
  subst hi
  refine va_zast x1 x2 x10.1 P.1 P.2.1 S q 1 (f := xA X a) hq (ty_at (gc Γ)).2.1 (ix_in hj h2) hd (fun H1 locs1 b1 b2 b3 => ?_)
  refine kk p e s m args below meth c' H1 locs1 ls C b3 (P.put (X' := sA X a j x) (P.mem (by omega)) hq0 (ce_upA hk (by decide) rfl (fun _ _ _ => rfl) rfl ?_ (fun b hb => u2_ne _ _ _ hb) (fun _ _ => rfl) (fun _ _ => rfl)) rfl rfl b1 b2) Lr
  rw [ce_arr (by decide) (show xK (sA X a j x) a = 11 from hk), if_pos (by decide), nI_clamp h2]
  refine congrArg (fun f => Sum.inl (gc Γ 11, xn X a, Sum.inl f)) ?_
  have e : vp_nar .boolean x = x := by rcases hx with rfl | rfl <;> decide
  rw [e]
  exact u2_at _ _ _ _
/-- the class of kind c, by its name -/
def cN : Nat → String := fun c => match c with
  | 0 => RX0
  | 1 => RX1
  | 2 => RX2
  | 3 => RX3
  | 4 => RX4
  | 5 => RX5
  | 6 => RX7
  | 7 => RX8
  | 8 => RX9
  | _ => RX10
theorem Rp.recv {H : Heap} {s : State} (P : Rp Γ X H) (G : GF Γ s) {a c : Nat} (hc : c < 9) (hk : xK X a = c) : ∃ cell : Cell, H[a]? = some cell ∧ cell.vm.isStatics = false ∧ s.vm.findClass (cN c) = some cell.cls := by
  obtain ⟨q, hq⟩ := va_pl_at (f := ce (gc Γ) X) (P.mem (a := a) (by omega))
  rw [ce_obj hc hk] at hq
  obtain ⟨C1, T1, g1, -⟩ := cl_all c hc
  have h := va_recv G.1 P.1 g1 hq
  have e : C1 = cN c := by
    have h0 : c = 0 ∨ c = 1 ∨ c = 2 ∨ c = 3 ∨ c = 4 ∨ c = 5 ∨ c = 6 ∨ c = 7 ∨ c = 8 ∨ c = 9 := by omega
    rcases h0 with rfl | rfl | rfl | rfl | rfl | rfl | rfl | rfl | rfl | rfl <;> cases g1 <;> rfl
  rw [← e]
  exact h
theorem J_aast {a j c b cb : Nat} {i : Int32} (hk : xK X a = c) (hc : 12 ≤ c ∧ c < 18) (hi : i = nI j) (hj : j < xn X a) (h2 : j < 2 ^ 31) (hb : xK X b = cb) (hcb : cb < 9) (hcc : cN cb = eC c) (hd : decode (mC μ) pc = .ok (.aastore, 1)) (kk : J Γ μ R Z k (pc + 1) L st (sP X a j (some b))) : J Γ μ R Z k pc L (.ref b :: .int i :: .ref a :: st) X := by
  intro p e0 s m args below meth c' H locs ls C S P Lr
  obtain ⟨q, hq0, hq⟩ := P.arr (by omega) hk (by omega)
  rw [if_neg (by omega), if_neg (by omega)] at hq
  obtain ⟨x1, x2, x3, x4, x5, x6, x7, x8, x9, x10⟩ := id C
  subst hi
  obtain ⟨q1, hq1⟩ := va_pl_at (f := ce (gc Γ) X) (P.mem (a := b) (by omega))
  rw [ce_obj hcb hb] at hq1
  obtain ⟨C1, T1, g1, -⟩ := cl_all cb hcb
  have e : C1 = cN cb := by
    have h0 : cb = 0 ∨ cb = 1 ∨ cb = 2 ∨ cb = 3 ∨ cb = 4 ∨ cb = 5 ∨ cb = 6 ∨ cb = 7 ∨ cb = 8 ∨ cb = 9 := by omega
    rcases h0 with rfl | rfl | rfl | rfl | rfl | rfl | rfl | rfl | rfl | rfl <;> cases g1 <;> rfl
  have ht := (ty_at (gc Γ)).2.2 c hc.1 hc.2
  rw [← hcc, ← e] at ht
  refine va_astq x1 x2 x10.1 P.1 P.2.1 S q (c - 10) q1 cb (f := xP X a) hq ht hq1 g1 (ix_in hj h2) hd (fun H1 locs1 b1 b2 b3 => ?_)
  refine kk p e0 s m args below meth c' H1 locs1 ls C b3 (P.put (X' := sP X a j (some b)) (P.mem (by omega)) hq0 (ce_upA hk (by omega) rfl (fun _ _ _ => rfl) rfl ?_ (fun _ _ => rfl) (fun _ _ => rfl) (fun b hb => u2_ne _ _ _ hb)) rfl rfl b1 b2) Lr
  rw [ce_arr (by omega) (show xK (sP X a j (some b)) a = c from hk), if_neg (by omega), if_neg (by omega), nI_clamp h2]
  refine congrArg (fun f => Sum.inl (gc Γ c, xn X a, Sum.inr (Sum.inr (Sum.inr (Sum.inr f))))) ?_
  exact u2_at _ _ _ _
end HW
