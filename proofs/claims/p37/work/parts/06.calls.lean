-- ===== returns, calls, throws, new objects and arrays, statics =====
section CW
variable {Γ : GTy} {μ : MTy} {R : Room} {Z : List Frame → Array Value → State → State → Prop} {k : Nat × Nat} {pc : Nat} {L : List (Option Value)} {st : List Value} {X : HS}
variable {QV : Option Value → HS → Prop} {QX : String → HS → Prop}
/-- an end that takes every return -/
def RZ (Γ : GTy) (μ : MTy) (QV : Option Value → HS → Prop) (Z : List Frame → Array Value → State → State → Prop) : Prop := ∀ (below : List Frame) (args : Array Value) (s t : State), MQ below (Qo Γ QV) args s (mM μ) (mS μ) (gA Γ) t → Z below args s t
theorem RZ.n : RZ Γ μ QV (Zn Γ μ QV) := fun _ _ _ _ h => h
theorem RZ.x : RZ Γ μ QV (Zx Γ μ QV QX) := fun _ _ _ _ h => by
  obtain ⟨o, b1, b2, b3, b4⟩ := h
  exact ⟨o, b1, b2, Or.inl ⟨b3, b4⟩⟩
theorem J_ret {v : Option Value} (hz : RZ Γ μ QV Z) (hk : k.1 ≤ mM μ ∧ k.2 ≤ mS μ) (hq : QV v X)
    (row : ∀ (p : Program) (e : Env) (s : State) (m : MethodId) (args : Array Value) (below : List Frame) (meth : Method) (c : Code) (H : Heap) (locs : List Loc) (ls : Array Slot), Cx Γ μ p s m args meth c → (∀ t : State, t.heap = H → s.WarmedH t.vm → Qo Γ QV args s (.returned v) t) → (∀ q ∈ locs, gA Γ q.base) → W p (gl Γ) e R s m args below meth c H locs (mM μ) (mS μ) (MQ below (Qo Γ QV) args s (mM μ) (mS μ) (gA Γ)) (F0 m pc ls st)) : J Γ μ R Z k pc L st X := by
  intro p e s m args below meth c H locs ls C S P Lr
  refine W.widen hk.1 hk.2 ?_
  intro T hT Y
  obtain ⟨t, a1, b1⟩ := row p e s m args below meth c H locs ls C (fun t ht _ => ⟨⟨v, X, rfl, hq, by rw [ht]; exact P⟩, S.F ht⟩) S.2.2 T hT Y
  exact ⟨t, a1, hz _ _ _ _ b1⟩
theorem J_iret {v : Int32} (hz : RZ Γ μ QV Z) (hd : decode (mC μ) pc = .ok (.ireturn, 1)) (hr : mR μ = some .int) (hk : k.1 ≤ mM μ ∧ k.2 ≤ mS μ) (hq : QV (some (.int v)) X) : J Γ μ R Z k pc L [.int v] X :=
  J_ret hz hk hq (fun p e s m args below meth c H locs ls C q f => W.iret C.1 C.2.1 (C.2.2.2.1.trans hr) q f hd C.2.2.2.2.1)
theorem J_zret {v : Int32} (hz : RZ Γ μ QV Z) (hd : decode (mC μ) pc = .ok (.ireturn, 1)) (hr : mR μ = some .boolean) (hv : v = 0 ∨ v = 1) (hk : k.1 ≤ mM μ ∧ k.2 ≤ mS μ) (hq : QV (some (.int v)) X) : J Γ μ R Z k pc L [.int v] X :=
  J_ret hz hk hq (fun p e s m args below meth c H locs ls C q f => W.zret C.1 C.2.1 (C.2.2.2.1.trans hr) (bool_ok hv).1 q f hd C.2.2.2.2.1)
theorem J_vret (hz : RZ Γ μ QV Z) (hd : decode (mC μ) pc = .ok (.return_, 1)) (hr : mR μ = none) (hk : k.1 ≤ mM μ ∧ k.2 ≤ mS μ) (hq : QV none X) : J Γ μ R Z k pc L [] X :=
  J_ret hz hk hq (fun p e s m args below meth c H locs ls C q f => W.vret C.1 C.2.1 (C.2.2.2.1.trans hr) q f hd C.2.2.2.2.1)
theorem J_aret {v : Value} {n : String} (hz : RZ Γ μ QV Z) (hd : decode (mC μ) pc = .ok (.areturn, 1)) (hr : mR μ = some (.object n)) (hv : v = .null ∨ ∃ a, v = .ref a) (hk : k.1 ≤ mM μ ∧ k.2 ≤ mS μ) (hq : QV (some v) X) : J Γ μ R Z k pc L [v] X :=
  J_ret hz hk hq (fun p e s m args below meth c H locs ls C q f => W.aret C.1 C.2.1 (C.2.2.2.1.trans hr) (Or.inl ⟨n, rfl⟩) hv q f hd C.2.2.2.2.1)
/-- a method's own facts: its code, its class -/
def MOK (ν : MTy) (n : Nat) : Prop := Cond.code (mN ν) (mC ν) (mL ν) (mR ν) ∈ BW ∧ Cond.initialized (mN ν).cls ∈ BW ∧ ((mN ν).cls ≠ "java/lang/invoke/MethodHandle" ∧ (mN ν).cls ≠ "java/lang/invoke/VarHandle" ∧ (parseMethodDescriptor (mN ν).desc).map (fun d => d.parameters.length) = some n)
def MOW (ν : MTy) (n : Nat) : Prop := Cond.codeWith (mN ν) (mC ν) (mL ν) (mR ν) (mH ν) ∈ BW ∧ Cond.initialized (mN ν).cls ∈ BW ∧ ((mN ν).cls ≠ "java/lang/invoke/MethodHandle" ∧ (mN ν).cls ≠ "java/lang/invoke/VarHandle" ∧ (parseMethodDescriptor (mN ν).desc).map (fun d => d.parameters.length) = some n)
theorem gi_of {w : Cond} (h : w ∈ BW) : GoodIn BW (w :: BW) := fun x hx => (List.mem_cons.mp hx).elim (fun e => by rw [e]; exact ⟨h, bw_good _ h⟩) (fun e => ⟨e, bw_good _ e⟩)
theorem St.blind {as : List Value} : FrameBlind (va_Pc as (St Γ X)) := fun a U g mk q => by
  obtain ⟨q1, q2, q3⟩ := q
  have hv : U.WarmedH (U.calling g mk a).vm := State.WarmedH.refl U
  exact ⟨q1, GF.moved q2 hv q2.2.2.2.2.2.2 (fun _ _ _ => rfl), q3⟩
theorem St.at {p : Program} {s : State} {m : MethodId} {args : Array Value} {meth : Method} {c : Code} {H : Heap} {locs : List Loc} {as : List Value} (C : Cx Γ μ p s m args meth c) (S : va_S (gA Γ) s.heap H locs) (P : Rp Γ X H) : ∀ U : State, U.heap = H → s.WarmedH U.vm → va_Pc as (St Γ X) as.toArray U := by
  intro U hU hW
  have G := C.2.2.2.2.2.2.2.2.2
  refine ⟨rfl, GF.moved G hW ?_ (fun q h1 h2 => by rw [hU]; exact S.2.1 q h1 h2), by rw [hU]; exact P⟩
  rw [hU]
  exact Nat.le_trans G.2.2.2.2.2.2 S.1
theorem J_ofrun {ν : MTy} {st0 rest : List Value} {as' : Array Value} {QV' : Option Value → HS → Prop} {QX' : String → HS → Prop}
    (hr : ∀ (p : Program) (e : Env) (s : State) (m : MethodId) (args : Array Value) (below : List Frame) (meth : Method) (c : Code) (H : Heap) (locs : List Loc) (ls : Array Slot), Cx Γ μ p s m args meth c → va_S (gA Γ) s.heap H locs → Rp Γ X H → LR ls (mL μ) L → vx_Run p (gl Γ) e R s m args below meth c H locs k.1 k.2 (mM ν) (mS ν) (F0 m pc ls st0) rest (Qo Γ QV' as') (Xo Γ QX') (gA Γ))
    (kk : ∀ (v : Option Value) (X' : HS), QV' v X' → J Γ μ R Z (k.1 + mM ν, k.2 + mS ν) (pc + 3) L (v.toList ++ rest) X') (kx : ∀ (E : String) (X' : HS), QX' E X' → JX Γ μ R Z E (k.1 + mM ν, k.2 + mS ν) pc L X') : J Γ μ R Z k pc L st0 X := by
  intro p e s m args below meth c H locs ls C S P Lr T hT Y
  rcases hr p e s m args below meth c H locs ls C S P Lr T hT Y with ⟨v, st₀, t, T', Lo, h0, Y', hL, e1, e2, ⟨⟨v', X', hv, hq, hR⟩, hF⟩, st⟩ | ⟨q, st₀, t, T', Lo, E, x, h0, Y', hL, e1, e2, ⟨X', hq, hR, hF⟩, hce, hcv, hcl, st⟩
  · cases hv
    obtain ⟨k1, k2, k3⟩ := vx_keep h0 e1 S (fun _ _ h => h) (fun _ h => h) hL hF
    obtain ⟨t2, a1, b1⟩ := kk v X' hq p e s m args below meth c T'.heap (locs ++ Lo) ls C k3 (by rw [e1]; exact hR) Lr T' rfl Y'
    exact ⟨t2, st t2 a1, b1⟩
  · obtain ⟨k1, k2, k3⟩ := vx_keep h0 e1 S (fun _ _ h => h) (fun _ h => h) hL hF
    obtain ⟨t2, a1, b1⟩ := kx E X' hq p e s m args below meth c T'.heap (locs ++ Lo) ls q x rest C k3 (by rw [e1]; exact hR) Lr (by rw [e1]; exact hce) hcv hcl T' rfl Y'
    exact ⟨t2, st.trans a1, b1⟩
theorem J_ofrunN {ν : MTy} {st0 rest : List Value} {as' : Array Value} {QV' : Option Value → HS → Prop}
    (hr : ∀ (p : Program) (e : Env) (s : State) (m : MethodId) (args : Array Value) (below : List Frame) (meth : Method) (c : Code) (H : Heap) (locs : List Loc) (ls : Array Slot), Cx Γ μ p s m args meth c → va_S (gA Γ) s.heap H locs → Rp Γ X H → LR ls (mL μ) L → va_Run p (gl Γ) e R s m args below meth c H locs k.1 k.2 (mM ν) (mS ν) (F0 m pc ls st0) rest (Qo Γ QV' as') (gA Γ))
    (kk : ∀ (v : Option Value) (X' : HS), QV' v X' → J Γ μ R Z (k.1 + mM ν, k.2 + mS ν) (pc + 3) L (v.toList ++ rest) X') : J Γ μ R Z k pc L st0 X := by
  intro p e s m args below meth c H locs ls C S P Lr T hT Y
  obtain ⟨v, st₀, t, T', Lo, h0, Y', hL, e1, e2, ⟨⟨v', X', hv, hq, hR⟩, hF⟩, st⟩ := hr p e s m args below meth c H locs ls C S P Lr T hT Y
  cases hv
  obtain ⟨k1, k2, k3⟩ := vx_keep h0 e1 S (fun _ _ h => h) (fun _ h => h) hL hF
  obtain ⟨t2, a1, b1⟩ := kk v X' hq p e s m args below meth c T'.heap (locs ++ Lo) ls C k3 (by rw [e1]; exact hR) Lr T' rfl Y'
  exact ⟨t2, st t2 a1, b1⟩
/-- room for a call -/
def RmOk (R : Room) (ν : MTy) (k : Nat × Nat) : Prop := (mD ν + 1 ≤ R.frames ∧ 8 + (mL ν + 11) + 36 * mD ν ≤ R.locals) ∧ (k.1 + mM ν ≤ R.cells ∧ k.2 + mS ν ≤ R.slots)
/-- what a call links: by name -/
def LkV (own : String) (idx : Nat) (ν : MTy) : Prop := Cond.methodLink own idx (mN ν) ∈ BW ∧ Cond.instanceMethod (mN ν) ∈ BW ∧ Cond.selects (mN ν).cls (mN ν) (mN ν) ∈ BW
def LkS (own : String) (idx : Nat) (ν : MTy) : Prop := Cond.methodLink own idx (mN ν) ∈ BW ∧ Cond.static (mN ν) ∈ BW
def LkU (own : String) (idx : Nat) (C owner : String) (x : MethodName) (ν : MTy) : Prop := Cond.methodLink own idx x ∈ BW ∧ Cond.sameMethod x.cls owner x.name x.desc ∈ BW ∧ Cond.selects C x (mN ν) ∈ BW ∧ Cond.instanceMethod (mN ν) ∈ BW ∧ ((Cond.declares ⟨owner, x.name, x.desc⟩ ∈ XW) ∨ mN ν = ⟨owner, x.name, x.desc⟩) ∧ (owner ≠ "java/lang/invoke/MethodHandle" ∧ owner ≠ "java/lang/invoke/VarHandle")
def LkNS (own : String) (idx : Nat) (host : String) (ν : MTy) : Prop := Cond.methodLinkNest own idx (mN ν) host ∈ XW ∧ Cond.static (mN ν) ∈ BW
def LkNI (own : String) (idx : Nat) (host : String) (ν : MTy) : Prop := Cond.methodLinkNest own idx (mN ν) host ∈ XW ∧ Cond.instanceMethod (mN ν) ∈ BW ∧ (mN ν).name = "<init>" ∧ mR ν = none
def LkI (own : String) (idx : Nat) (ν : MTy) : Prop := Cond.methodLink own idx (mN ν) ∈ BW ∧ Cond.instanceMethod (mN ν) ∈ BW ∧ (mN ν).name = "<init>" ∧ mR ν = none
theorem cs_ok {rest : List Value} {m : MethodId} {ls : Array Slot} {st0 : List Value} (h : (rest.map fun v => v.category).sum ≤ 8) : 2 * (F0 m pc ls st0).monitorRoom + (rest.map fun v => v.category).sum ≤ 8 := lv_room h
theorem callB_J {ν : MTy} {n idx : Nat} {p : Program} {s : State} {m : MethodId} {args : Array Value} {meth : Method} {c : Code} (C : Cx Γ μ p s m args meth c) (hM : MOK ν n) (hl : Cond.methodLink (mN μ).cls idx (mN ν) ∈ BW) (hR : RmOk R ν k) : CallB R s args (mN μ).cls idx (mN ν) (mC ν) (mL ν) (mR ν) (.code (mN ν) (mC ν) (mL ν) (mR ν) :: BW) (rm ν) (mM ν) (mS ν) n :=
  callB_of n C.2.2.2.2.2.2.2.2.1 (gi_of hM.1) rfl rfl rfl (C.2.2.2.2.2.2.2.2.1 _ hM.2.1) (C.2.2.2.2.2.2.2.2.1 _ hl) hM.2.2 hR.1
theorem cf_J {p : Program} {s : State} {m : MethodId} {args : Array Value} {meth : Method} {c : Code} (C : Cx Γ μ p s m args meth c) : CallFix p m c (mC μ) (mL μ) s args BW (mN μ).cls := ⟨C.1, C.2.1, C.2.2.1, C.2.2.2.2.2.2.1, C.2.2.2.2.2.2.2.2.1⟩
/-- a call of a method by its name, on an object; it may throw -/
theorem J_callV {ν : MTy} {n idx b cb : Nat} {as rest : List Value} {st0 : List Value} {QV' : Option Value → HS → Prop} {QX' : String → HS → Prop} (hM : MOK ν n) (hl : LkV (mN μ).cls idx ν) (hR : RmOk R ν k) (hb : xK X b = cb) (hcb : cb < 9) (hcc : cN cb = (mN ν).cls) (hn : as.length = n) (hst : st0 = as.reverse ++ .ref b :: rest) (hcat : (rest.map fun v => v.category).sum ≤ 8) (hd : decode (mC μ) pc = .ok (.invokevirtual idx, 3)) (hc : Ct Γ ν (.ref b :: as) X QV' QX')
    (kk : ∀ (v : Option Value) (X' : HS), QV' v X' → J Γ μ R Z (k.1 + mM ν, k.2 + mS ν) (pc + 3) L (v.toList ++ rest) X') (kx : ∀ (E : String) (X' : HS), QX' E X' → JX Γ μ R Z E (k.1 + mM ν, k.2 + mS ν) pc L X') : J Γ μ R Z k pc L st0 X := by
  refine J_ofrun (ν := ν) (as' := (Value.ref b :: as).toArray) (fun p e s m args below meth c H locs ls C S P Lr => ?_) kk kx
  have hr := P.recv C.2.2.2.2.2.2.2.2.2 hcb hb
  rw [hcc] at hr
  exact vx_runV (cf_J C) hc ⟨callB_J C hM hl.1 hR, C.2.2.2.2.2.2.2.2.1 _ hl.2.1, C.2.2.2.2.2.2.2.2.1 _ hl.2.2⟩ ⟨St.blind, hr, St.at C S P⟩ rfl hn Lr.1 hst (cs_ok hcat) hd hR.2
theorem J_callS {ν : MTy} {n idx : Nat} {as rest : List Value} {st0 : List Value} {QV' : Option Value → HS → Prop} {QX' : String → HS → Prop} (hM : MOK ν n) (hl : LkS (mN μ).cls idx ν) (hR : RmOk R ν k) (hn : as.length = n) (hst : st0 = as.reverse ++ rest) (hcat : (rest.map fun v => v.category).sum ≤ 8) (hd : decode (mC μ) pc = .ok (.invokestatic idx, 3)) (hc : Ct Γ ν as X QV' QX')
    (kk : ∀ (v : Option Value) (X' : HS), QV' v X' → J Γ μ R Z (k.1 + mM ν, k.2 + mS ν) (pc + 3) L (v.toList ++ rest) X') (kx : ∀ (E : String) (X' : HS), QX' E X' → JX Γ μ R Z E (k.1 + mM ν, k.2 + mS ν) pc L X') : J Γ μ R Z k pc L st0 X := by
  refine J_ofrun (ν := ν) (as' := as.toArray) (fun p e s m args below meth c H locs ls C S P Lr => ?_) kk kx
  exact vx_runS (cf_J C) hc ⟨callB_J C hM hl.1 hR, C.2.2.2.2.2.2.2.2.1 _ hl.2⟩ ⟨St.blind, St.at C S P⟩ rfl hn Lr.1 hst (cs_ok hcat) hd hR.2
/-- a method with a table of handlers, called by its name -/
theorem J_callSW {ν : MTy} {n idx : Nat} {as rest : List Value} {st0 : List Value} {QV' : Option Value → HS → Prop} {QX' : String → HS → Prop} (hM : MOW ν n) (hl : LkS (mN μ).cls idx ν) (hR : RmOk R ν k) (hn : as.length = n) (hst : st0 = as.reverse ++ rest) (hcat : (rest.map fun v => v.category).sum ≤ 8) (hd : decode (mC μ) pc = .ok (.invokestatic idx, 3)) (hc : Cw Γ ν as X QV' QX')
    (kk : ∀ (v : Option Value) (X' : HS), QV' v X' → J Γ μ R Z (k.1 + mM ν, k.2 + mS ν) (pc + 3) L (v.toList ++ rest) X') (kx : ∀ (E : String) (X' : HS), QX' E X' → JX Γ μ R Z E (k.1 + mM ν, k.2 + mS ν) pc L X') : J Γ μ R Z k pc L st0 X := by
  refine J_ofrun (ν := ν) (as' := as.toArray) (fun p e s m args below meth c H locs ls C S P Lr => ?_) kk kx
  have ht := C.2.2.2.2.2.2.2.2.1
  refine vx_runSX (hh := mH ν) (bytes := mC ν) (maxL := mL ν) (ret := mR ν) (n := n) (index := idx) (cf_J C) hc ⟨⟨rfl, rfl, hR.1.1, hR.1.2, pay_in ht (gi_of hM.1), List.mem_cons_self⟩, ht _ hM.1, ht _ hM.2.1, ⟨hM.2.2.1, hM.2.2.2.1⟩, fun sig h => ?_, ht _ hl.1, ht _ hl.2⟩ ⟨St.blind, St.at C S P⟩ rfl hn Lr.1 hst (cs_ok hcat) hd hR.2
  have h2 := hM.2.2.2.2
  rw [h] at h2
  exact (Option.some.inj h2).symm
theorem J_callVn {ν : MTy} {n idx b cb : Nat} {as rest : List Value} {st0 : List Value} {QV' : Option Value → HS → Prop} (hM : MOK ν n) (hl : LkV (mN μ).cls idx ν) (hR : RmOk R ν k) (hb : xK X b = cb) (hcb : cb < 9) (hcc : cN cb = (mN ν).cls) (hn : as.length = n) (hst : st0 = as.reverse ++ .ref b :: rest) (hcat : (rest.map fun v => v.category).sum ≤ 8) (hd : decode (mC μ) pc = .ok (.invokevirtual idx, 3)) (hc : Cn Γ ν (.ref b :: as) X QV')
    (kk : ∀ (v : Option Value) (X' : HS), QV' v X' → J Γ μ R Z (k.1 + mM ν, k.2 + mS ν) (pc + 3) L (v.toList ++ rest) X') : J Γ μ R Z k pc L st0 X := by
  refine J_ofrunN (ν := ν) (as' := (Value.ref b :: as).toArray) (fun p e s m args below meth c H locs ls C S P Lr => ?_) kk
  have hr := P.recv C.2.2.2.2.2.2.2.2.2 hcb hb
  rw [hcc] at hr
  exact va_runV (cf_J C) hc ⟨callB_J C hM hl.1 hR, C.2.2.2.2.2.2.2.2.1 _ hl.2.1, C.2.2.2.2.2.2.2.2.1 _ hl.2.2⟩ ⟨St.blind, hr, St.at C S P⟩ rfl hn Lr.1 hst (cs_ok hcat) hd hR.2
theorem J_callSn {ν : MTy} {n idx : Nat} {as rest : List Value} {st0 : List Value} {QV' : Option Value → HS → Prop} (hM : MOK ν n) (hl : LkS (mN μ).cls idx ν) (hR : RmOk R ν k) (hn : as.length = n) (hst : st0 = as.reverse ++ rest) (hcat : (rest.map fun v => v.category).sum ≤ 8) (hd : decode (mC μ) pc = .ok (.invokestatic idx, 3)) (hc : Cn Γ ν as X QV')
    (kk : ∀ (v : Option Value) (X' : HS), QV' v X' → J Γ μ R Z (k.1 + mM ν, k.2 + mS ν) (pc + 3) L (v.toList ++ rest) X') : J Γ μ R Z k pc L st0 X := by
  refine J_ofrunN (ν := ν) (as' := as.toArray) (fun p e s m args below meth c H locs ls C S P Lr => ?_) kk
  exact va_runS (cf_J C) hc ⟨callB_J C hM hl.1 hR, C.2.2.2.2.2.2.2.2.1 _ hl.2⟩ ⟨St.blind, St.at C S P⟩ rfl hn Lr.1 hst (cs_ok hcat) hd hR.2
theorem J_callNS {ν : MTy} {n idx : Nat} {host : String} {as rest : List Value} {st0 : List Value} {QV' : Option Value → HS → Prop} (hM : MOK ν n) (hl : LkNS (mN μ).cls idx host ν) (hR : RmOk R ν k) (hn : as.length = n) (hst : st0 = as.reverse ++ rest) (hcat : (rest.map fun v => v.category).sum ≤ 8) (hd : decode (mC μ) pc = .ok (.invokestatic idx, 3)) (hc : Cn Γ ν as X QV')
    (kk : ∀ (v : Option Value) (X' : HS), QV' v X' → J Γ μ R Z (k.1 + mM ν, k.2 + mS ν) (pc + 3) L (v.toList ++ rest) X') : J Γ μ R Z k pc L st0 X := by
  refine J_ofrunN (ν := ν) (as' := as.toArray) (fun p e s m args below meth c H locs ls C S P Lr => ?_) kk
  have ht := C.2.2.2.2.2.2.2.2.1
  have hx := xw_use (args := args) C.2.2.2.2.2.2.2.2.2.2.1 _ hl.1
  refine va_runSN (host := host) (bytes := mC ν) (maxL := mL ν) (ret := mR ν) (n := n) (index := idx) (cf_J C) hc ⟨⟨⟨rfl, rfl, hR.1.1, hR.1.2, pay_in ht (gi_of hM.1), List.mem_cons_self⟩, ht _ hM.1, ht _ hM.2.1, ⟨hM.2.2.1, hM.2.2.2.1⟩, fun sig h => ?_, hx⟩, ht _ hl.2, trivial⟩ ⟨St.blind, St.at C S P⟩ rfl hn Lr.1 hst (cs_ok hcat) hd hR.2
  have h2 := hM.2.2.2.2
  rw [h] at h2
  exact (Option.some.inj h2).symm
theorem J_callNI {ν : MTy} {n idx b : Nat} {host : String} {as rest : List Value} {st0 : List Value} {QV' : Option Value → HS → Prop} (hM : MOK ν n) (hl : LkNI (mN μ).cls idx host ν) (hR : RmOk R ν k) (hn : as.length = n) (hst : st0 = as.reverse ++ .ref b :: rest) (hcat : (rest.map fun v => v.category).sum ≤ 8) (hd : decode (mC μ) pc = .ok (.invokespecial idx, 3)) (hc : Cn Γ ν (.ref b :: as) X QV')
    (kk : ∀ (v : Option Value) (X' : HS), QV' v X' → J Γ μ R Z (k.1 + mM ν, k.2 + mS ν) (pc + 3) L (v.toList ++ rest) X') : J Γ μ R Z k pc L st0 X := by
  refine J_ofrunN (ν := ν) (as' := (Value.ref b :: as).toArray) (fun p e s m args below meth c H locs ls C S P Lr => ?_) kk
  have ht := C.2.2.2.2.2.2.2.2.1
  have hx := xw_use (args := args) C.2.2.2.2.2.2.2.2.2.2.1 _ hl.1
  have hc' := hc
  unfold Cn at hc'
  rw [hl.2.2.2] at hc'
  have hM1 := hM.1
  rw [hl.2.2.2] at hM1
  refine va_runIN (host := host) (bytes := mC ν) (maxL := mL ν) (n := n) (index := idx) (cf_J C) hc' ⟨⟨⟨rfl, rfl, hR.1.1, hR.1.2, pay_in ht (gi_of hM1), List.mem_cons_self⟩, ht _ hM1, ht _ hM.2.1, ⟨hM.2.2.1, hM.2.2.2.1⟩, fun sig h => ?_, hx⟩, hl.2.2.1, ht _ hl.2.1⟩ ⟨St.blind, St.at C S P⟩ rfl hn Lr.1 hst (cs_ok hcat) hd hR.2
  have h2 := hM.2.2.2.2
  rw [h] at h2
  exact (Option.some.inj h2).symm
theorem J_callI {ν : MTy} {n idx b : Nat} {as rest : List Value} {st0 : List Value} {QV' : Option Value → HS → Prop} (hM : MOK ν n) (hl : LkI (mN μ).cls idx ν) (hR : RmOk R ν k) (hn : as.length = n) (hst : st0 = as.reverse ++ .ref b :: rest) (hcat : (rest.map fun v => v.category).sum ≤ 8) (hd : decode (mC μ) pc = .ok (.invokespecial idx, 3)) (hc : Cn Γ ν (.ref b :: as) X QV')
    (kk : ∀ (v : Option Value) (X' : HS), QV' v X' → J Γ μ R Z (k.1 + mM ν, k.2 + mS ν) (pc + 3) L (v.toList ++ rest) X') : J Γ μ R Z k pc L st0 X := by
  refine J_ofrunN (ν := ν) (as' := (Value.ref b :: as).toArray) (fun p e s m args below meth c H locs ls C S P Lr => ?_) kk
  have ht := C.2.2.2.2.2.2.2.2.1
  have hcb := callB_J C hM hl.1 hR
  have hc' := hc
  unfold Cn at hc'
  rw [hl.2.2.2] at hc' hcb
  exact va_runI (cf_J C) hc' ⟨hcb, hl.2.2.1, ht _ hl.2.1⟩ ⟨St.blind, St.at C S P⟩ rfl hn Lr.1 hst (cs_ok hcat) hd hR.2
/-- a call through a class that may only inherit, or declare, what runs -/
theorem J_callU {ν : MTy} {n idx b cb : Nat} {owner : String} {x : MethodName} {as rest : List Value} {st0 : List Value} {QV' : Option Value → HS → Prop} (hM : MOK ν n) (hl : LkU (mN μ).cls idx (cN cb) owner x ν) (hx : (parseMethodDescriptor x.desc).map (fun d => d.parameters.length) = some n) (hR : RmOk R ν k) (hb : xK X b = cb) (hcb : cb < 9) (hn : as.length = n) (hst : st0 = as.reverse ++ .ref b :: rest) (hcat : (rest.map fun v => v.category).sum ≤ 8) (hd : decode (mC μ) pc = .ok (.invokevirtual idx, 3)) (hc : Cn Γ ν (.ref b :: as) X QV')
    (kk : ∀ (v : Option Value) (X' : HS), QV' v X' → J Γ μ R Z (k.1 + mM ν, k.2 + mS ν) (pc + 3) L (v.toList ++ rest) X') : J Γ μ R Z k pc L st0 X := by
  refine J_ofrunN (ν := ν) (as' := (Value.ref b :: as).toArray) (fun p e s m args below meth c H locs ls C S P Lr => ?_) kk
  have ht := C.2.2.2.2.2.2.2.2.1
  have G := C.2.2.2.2.2.2.2.2.2
  have hr := P.recv G hcb hb
  obtain ⟨l1, l2, l3, l4, l5, l6⟩ := hl
  have hdecl : va_Decl s ⟨owner, x.name, x.desc⟩ := by
    rcases l5 with h | h
    · exact va_Decl.abs (G.2.1 _ h)
    · rw [← h]; exact va_Decl.of (ht _ l4) (ht _ hM.1)
  refine va_runU (owner := owner) (x := x) (bytes := mC ν) (maxL := mL ν) (ret := mR ν) (n := n) (index := idx) (cf_J C) hc ⟨⟨rfl, rfl, hR.1.1, hR.1.2, pay_in ht (gi_of hM.1), List.mem_cons_self⟩, ht _ hM.1, ht _ hM.2.1, l6, fun sig h => ?_, ht _ l1, ht _ l2, hdecl, ht _ l3, ht _ l4⟩ ⟨St.blind, hr, St.at C S P⟩ rfl hn Lr.1 hst (cs_ok hcat) hd hR.2
  rw [h] at hx
  exact (Option.some.inj hx).symm
/-- Object's constructor -/
theorem J_objInit {idx a : Nat} {rest : List Value} (hl : Cond.methodLink (mN μ).cls idx Lib.objectInit ∈ BW) (hw : Cond.instanceMethod Lib.objectInit ∈ BW ∧ Cond.code Lib.objectInit ⟨#[0xb1]⟩ 1 none ∈ BW) (hf : 1 ≤ R.frames ∧ (rest.map fun v => v.category).sum + 12 ≤ R.locals) (hd : decode (mC μ) pc = .ok (.invokespecial idx, 3)) (kk : J Γ μ R Z k (pc + 3) L rest X) : J Γ μ R Z k pc L (.ref a :: rest) X := by
  intro p e s m args below meth c H locs ls C S P Lr
  have ht := C.2.2.2.2.2.2.2.2.1
  exact W.objInit C.1 C.2.1 C.2.2.2.2.2.2.1 (ht _ hl) (ht _ hw.1) (ht _ hw.2) rfl (Lr.1.trans C.2.2.1.symm) rfl hd hf.1 (by show 2 * 0 + _ + 12 ≤ _; omega) (kk p e s m args below meth c H locs ls C S P Lr)
theorem J_max {idx : Nat} {x y : Int32} {rest : List Value} (hl : Cond.methodLink (mN μ).cls idx Lib.Math.max.name ∈ BW) (hw : Cond.static Lib.Math.max.name ∈ BW ∧ Cond.initialized "java/lang/Math" ∈ BW ∧ Cond.code Lib.Math.max.name Lib.Math.max.code 2 (some .int) ∈ BW) (hf : 1 ≤ R.frames ∧ (rest.map fun v => v.category).sum + 13 ≤ R.locals) (hk : k.1 ≤ R.cells ∧ k.2 ≤ R.slots) (hd : decode (mC μ) pc = .ok (.invokestatic idx, 3)) (kk : J Γ μ R Z k (pc + 3) L (.int (if x < y then y else x) :: rest) X) : J Γ μ R Z k pc L (.int y :: .int x :: rest) X := by
  intro p e s m args below meth c H locs ls C S P Lr
  have ht := C.2.2.2.2.2.2.2.2.1
  exact va_mmax C.1 C.2.1 (C.2.2.1.trans Lr.1.symm) C.2.2.2.2.2.2.1 (ht _ hl) (ht _ hw.1) (ht _ hw.2.1) (ht _ hw.2.2) hf.1 hf.2 hk.1 hk.2 hd (kk p e s m args below meth c H locs ls C S P Lr)
theorem J_min {idx : Nat} {x y : Int32} {rest : List Value} (hl : Cond.methodLink (mN μ).cls idx Lib.Math.min.name ∈ BW) (hw : Cond.static Lib.Math.min.name ∈ BW ∧ Cond.initialized "java/lang/Math" ∈ BW ∧ Cond.code Lib.Math.min.name Lib.Math.min.code 2 (some .int) ∈ BW) (hf : 1 ≤ R.frames ∧ (rest.map fun v => v.category).sum + 13 ≤ R.locals) (hk : k.1 ≤ R.cells ∧ k.2 ≤ R.slots) (hd : decode (mC μ) pc = .ok (.invokestatic idx, 3)) (kk : J Γ μ R Z k (pc + 3) L (.int (if y < x then y else x) :: rest) X) : J Γ μ R Z k pc L (.int y :: .int x :: rest) X := by
  intro p e s m args below meth c H locs ls C S P Lr
  have ht := C.2.2.2.2.2.2.2.2.1
  exact va_mmin C.1 C.2.1 (C.2.2.1.trans Lr.1.symm) C.2.2.2.2.2.2.1 (ht _ hl) (ht _ hw.1) (ht _ hw.2.1) (ht _ hw.2.2) hf.1 hf.2 hk.1 hk.2 hd (kk p e s m args below meth c H locs ls C S P Lr)
/-- an exception goes on to the caller -/
theorem JX_out {E : String} (hh : mH μ = []) (hk : k.1 ≤ mM μ ∧ k.2 ≤ mS μ) (hq : QX E X) : JX Γ μ R (Zx Γ μ QV QX) E k pc L X := by
  intro p e s m args below meth c H locs ls q x rest C S P Lr h1 h2 h3
  refine vx_out (fun z hz => ?_) C.2.2.2.2.1 h1 h2 h3 (fun t ht _ => ⟨X, hq, by rw [ht]; exact P, S.F ht⟩) S.2.2 hk.1 hk.2
  rw [C.2.2.2.2.2.1, hh] at hz
  exact absurd hz (by simp [tableOf])
end CW
