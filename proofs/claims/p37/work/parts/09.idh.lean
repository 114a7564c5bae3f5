-- ===== the heap over ids =====
def rfv : List Value → List Nat
  | [] => []
  | .ref a :: l => a :: rfv l
  | _ :: l => rfv l
def rfs : List (Option Value) → List Nat
  | [] => []
  | some (.ref a) :: l => a :: rfs l
  | _ :: l => rfs l
theorem sm_eq {α α' : Nat → Nat} : ∀ {st : List Value}, (∀ r ∈ rfv st, α' r = α r) → sm α' st = sm α st
  | [], _ => rfl
  | v :: l, h => by
    have ih : (∀ r ∈ rfv l, α' r = α r) → sm α' l = sm α l := sm_eq
    cases v
    case ref a =>
      show Value.ref (α' a) :: sm α' l = .ref (α a) :: sm α l
      rw [h a List.mem_cons_self, ih (fun r hr => h r (List.mem_cons_of_mem _ hr))]
    all_goals
      exact congrArg (fun t => List.cons _ t) (ih h)
theorem lm_eq {α α' : Nat → Nat} : ∀ {L : List (Option Value)}, (∀ r ∈ rfs L, α' r = α r) → lm α' L = lm α L
  | [], _ => rfl
  | v :: l, h => by
    have ih : (∀ r ∈ rfs l, α' r = α r) → lm α' l = lm α l := lm_eq
    cases v with
    | none => exact congrArg (fun t => List.cons _ t) (ih h)
    | some v =>
      cases v
      case ref a =>
        show some (Value.ref (α' a)) :: lm α' l = some (.ref (α a)) :: lm α l
        rw [h a List.mem_cons_self, ih (fun r hr => h r (List.mem_cons_of_mem _ hr))]
      all_goals
        exact congrArg (fun t => List.cons _ t) (ih h)
section CRS
variable {Γ : GTy} {α : Nat → Nat} {Y X : HS}
theorem CR.inj (h : CR Γ α Y X) {a b : Nat} (ha : a ∈ xL Y) (hb : b ∈ xL Y) : (α b = α a) = (b = a) := propext ⟨fun e => h.1 b hb a ha e, fun e => by rw [e]⟩
theorem CR.sI (h : CR Γ α Y X) {c i a : Nat} (v : Int32) (ha : a ∈ xL Y) : CR Γ α (sI Y c i a v) (sI X c i (α a) v) := by
  obtain ⟨h1, h2, h3, h4, h5, h6, h7⟩ := id h
  refine ⟨h1, h2, fun b hb => ⟨(h3 b hb).1, (h3 b hb).2.1, fun c' k => ?_, (h3 b hb).2.2.2.1, (h3 b hb).2.2.2.2⟩, h4, h5, h6, h7⟩
  show (if c' = c ∧ k = i ∧ α b = α a then v else xI X c' k (α b)) = (if c' = c ∧ k = i ∧ b = a then v else xI Y c' k b)
  simp only [h.inj ha hb, (h3 b hb).2.2.1]
theorem CR.sR (h : CR Γ α Y X) {c i a : Nat} {o : Option Nat} (ha : a ∈ xL Y) (ho : ∀ r, o = some r → r ∈ xL Y) : CR Γ α (sR Y c i a o) (sR X c i (α a) (o.map α)) := by
  obtain ⟨h1, h2, h3, h4, h5, h6, h7⟩ := id h
  refine ⟨h1, h2, fun b hb => ⟨(h3 b hb).1, (h3 b hb).2.1, (h3 b hb).2.2.1, fun c' k => ?_, (h3 b hb).2.2.2.2⟩, h4, h5, h6, fun b hb => ⟨fun c' k r hr => ?_, (h7 b hb).2⟩⟩
  · show (if c' = c ∧ k = i ∧ α b = α a then o.map α else xR X c' k (α b)) = (if c' = c ∧ k = i ∧ b = a then o else xR Y c' k b).map α
    simp only [h.inj ha hb, (h3 b hb).2.2.2.1]
    split <;> rfl
  · have hr' : (if c' = c ∧ k = i ∧ b = a then o else xR Y c' k b) = some r := hr
    split at hr'
    · exact ho r hr'
    · exact (h7 b hb).1 c' k r hr'
theorem CR.sA (h : CR Γ α Y X) {a i : Nat} (v : Int32) (ha : a ∈ xL Y) : CR Γ α (sA Y a i v) (sA X (α a) i v) := by
  obtain ⟨h1, h2, h3, h4, h5, h6, h7⟩ := id h
  refine ⟨h1, h2, fun b hb => ⟨(h3 b hb).1, (h3 b hb).2.1, (h3 b hb).2.2.1, (h3 b hb).2.2.2.1, fun j => ?_, (h3 b hb).2.2.2.2.2⟩, h4, h5, h6, h7⟩
  show (if α b = α a ∧ j = i then v else xA X (α b) j) = (if b = a ∧ j = i then v else xA Y b j)
  simp only [h.inj ha hb, (h3 b hb).2.2.2.2.1]
theorem CR.sJ (h : CR Γ α Y X) {a i : Nat} (v : Int64) (ha : a ∈ xL Y) : CR Γ α (sJ Y a i v) (sJ X (α a) i v) := by
  obtain ⟨h1, h2, h3, h4, h5, h6, h7⟩ := id h
  refine ⟨h1, h2, fun b hb => ⟨(h3 b hb).1, (h3 b hb).2.1, (h3 b hb).2.2.1, (h3 b hb).2.2.2.1, (h3 b hb).2.2.2.2.1, fun j => ?_, (h3 b hb).2.2.2.2.2.2⟩, h4, h5, h6, h7⟩
  show (if α b = α a ∧ j = i then v else xJ X (α b) j) = (if b = a ∧ j = i then v else xJ Y b j)
  simp only [h.inj ha hb, (h3 b hb).2.2.2.2.2.1]
theorem CR.sP (h : CR Γ α Y X) {a i r : Nat} (ha : a ∈ xL Y) (hr : r ∈ xL Y) : CR Γ α (sP Y a i (some r)) (sP X (α a) i (some (α r))) := by
  obtain ⟨h1, h2, h3, h4, h5, h6, h7⟩ := id h
  refine ⟨h1, h2, fun b hb => ⟨(h3 b hb).1, (h3 b hb).2.1, (h3 b hb).2.2.1, (h3 b hb).2.2.2.1, (h3 b hb).2.2.2.2.1, (h3 b hb).2.2.2.2.2.1, fun j => ?_⟩, h4, h5, h6, fun b hb => ⟨(h7 b hb).1, fun j q hq => ?_⟩⟩
  · show (if α b = α a ∧ j = i then some (α r) else xP X (α b) j) = (if b = a ∧ j = i then some r else xP Y b j).map α
    simp only [h.inj ha hb, (h3 b hb).2.2.2.2.2.2]
    split <;> rfl
  · have hq' : (if b = a ∧ j = i then some r else xP Y b j) = some q := hq
    split at hq'
    · cases hq'; exact hr
    · exact (h7 b hb).2 j q hq'
/-- a new cell: what the four rows share -/
theorem CR.new (h : CR Γ α Y X) {z q c : Nat} {Y' X' : HS} (hid : xK Y z = 99) (hlt : z < 1000000000) (hq : q ∉ xL X) (hc : c ≠ 99) (lY : xL Y' = xL Y ++ [z]) (lX : xL X' = xL X ++ [q]) (kY : xK Y' = va_up (xK Y) z c) (kX : xK X' = va_up (xK X) q c)
    (hn : xn X' q = xn Y' z ∧ (∀ c k, xI X' c k q = xI Y' c k z) ∧ (∀ c k, xR X' c k q = none ∧ xR Y' c k z = none) ∧ (∀ i, xA X' q i = xA Y' z i) ∧ (∀ i, xJ X' q i = xJ Y' z i) ∧ (∀ i, xP X' q i = none ∧ xP Y' z i = none))
    (ho : ∀ a b, a ≠ q → b ≠ z → (xn X' a = xn X a ∧ xn Y' b = xn Y b) ∧ (∀ c k, xI X' c k a = xI X c k a ∧ xI Y' c k b = xI Y c k b) ∧ (∀ c k, xR X' c k a = xR X c k a ∧ xR Y' c k b = xR Y c k b) ∧ (∀ i, xA X' a i = xA X a i ∧ xA Y' b i = xA Y b i) ∧ (∀ i, xJ X' a i = xJ X a i ∧ xJ Y' b i = xJ Y b i) ∧ (∀ i, xP X' a i = xP X a i ∧ xP Y' b i = xP Y b i)) : CR Γ (va_up α z q) Y' X' := by
  obtain ⟨h1, h2, h3, h4, h5, h6, h7⟩ := id h
  have hni : z ∉ xL Y := (h4 z).mpr hid
  have hin : ∀ a, a ∈ xL Y → a ≠ z := fun a ha e => hni (e ▸ ha)
  have him : ∀ a, a ∈ xL Y → α a ∈ xL X := fun a ha => by rw [h2]; exact List.mem_map.mpr ⟨a, ha, rfl⟩
  have hne : ∀ a, a ∈ xL Y → α a ≠ q := fun a ha e => hq (e ▸ him a ha)
  have hup : ∀ a, a ∈ xL Y → va_up α z q a = α a := fun a ha => va_up_ne _ _ (hin a ha)
  have cl : ∀ a, a ∈ xL Y → (∀ c k r, xR Y c k a = some r → r ∈ xL Y) ∧ (∀ i r, xP Y a i = some r → r ∈ xL Y) := h7
  refine ⟨fun a ha b hb hab => ?_, ?_, fun a ha => ?_, fun a => ?_, fun i hi => ?_, fun a ha => ?_, fun a ha => ?_⟩
  · rw [lY, List.mem_append, List.mem_singleton] at ha hb
    rcases ha with ha | rfl <;> rcases hb with hb | rfl
    · rw [hup a ha, hup b hb] at hab; exact h1 a ha b hb hab
    · rw [hup a ha, va_up_self] at hab; exact absurd hab (hne a ha)
    · rw [hup b hb, va_up_self] at hab; exact absurd hab.symm (hne b hb)
    · rfl
  · rw [lX, lY, h2, List.map_append]
    congr 1
    · exact List.map_congr_left (fun a ha => (hup a ha).symm)
    · simp [va_up_self]
  · rw [lY, List.mem_append, List.mem_singleton] at ha
    rcases ha with ha | rfl
    · rw [hup a ha, kX, kY, va_up_ne _ _ (hne a ha), va_up_ne _ _ (hin a ha)]
      obtain ⟨g1, g2, g3, g4, g5, g6⟩ := ho (α a) a (hne a ha) (hin a ha)
      obtain ⟨e1, e2, e3, e4, e5, e6, e7⟩ := h3 a ha
      refine ⟨e1, by rw [g1.1, g1.2, e2], fun c k => by rw [(g2 c k).1, (g2 c k).2, e3], fun c k => ?_, fun i => by rw [(g4 i).1, (g4 i).2, e5], fun i => by rw [(g5 i).1, (g5 i).2, e6], fun i => ?_⟩
      · rw [(g3 c k).1, (g3 c k).2, e4]
        cases hr : xR Y c k a with
        | none => rfl
        | some r => exact congrArg some (hup r ((cl a ha).1 c k r hr)).symm
      · rw [(g6 i).1, (g6 i).2, e7]
        cases hr : xP Y a i with
        | none => rfl
        | some r => exact congrArg some (hup r ((cl a ha).2 i r hr)).symm
    · rw [va_up_self, kX, kY, va_up_self, va_up_self]
      exact ⟨rfl, hn.1, hn.2.1, fun c k => by rw [(hn.2.2.1 c k).1, (hn.2.2.1 c k).2]; rfl, hn.2.2.2.1, hn.2.2.2.2.1, fun i => by rw [(hn.2.2.2.2.2 i).1, (hn.2.2.2.2.2 i).2]; rfl⟩
  · rw [lY, List.mem_append, List.mem_singleton, kY]
    by_cases e : a = z
    · subst e
      rw [va_up_self]
      exact ⟨fun h => absurd (Or.inr rfl) h, fun h => absurd h hc⟩
    · rw [va_up_ne _ _ e, ← h4 a]
      exact ⟨fun h hh => h (Or.inl hh), fun h hh => hh.elim h e⟩
  · rw [va_up_ne _ _ (by unfold sid; omega)]
    exact h5 i hi
  · rw [lY, List.mem_append, List.mem_singleton] at ha
    rcases ha with ha | rfl
    · exact h6 a ha
    · exact hlt
  · rw [lY]
    rw [lY, List.mem_append, List.mem_singleton] at ha
    rcases ha with ha | rfl
    · obtain ⟨g1, g2, g3, g4, g5, g6⟩ := ho q a |> fun f => ho (α a) a (hne a ha) (hin a ha)
      refine ⟨fun c k r hr => List.mem_append_left _ ?_, fun i r hr => List.mem_append_left _ ?_⟩
      · rw [(g3 c k).2] at hr; exact (cl a ha).1 c k r hr
      · rw [(g6 i).2] at hr; exact (cl a ha).2 i r hr
    · refine ⟨fun c k r hr => ?_, fun i r hr => ?_⟩
      · rw [(hn.2.2.1 c k).2] at hr; cases hr
      · rw [(hn.2.2.2.2.2 i).2] at hr; cases hr
end CRS
section GH
variable {Γ : GTy} {μ : MTy} {R : Room} {W : WTy} {k : Nat × Nat} {pc : Nat} {L : List (Option Value)} {st : List Value} {Y : HS}
variable {QV : Option Value → HS → Prop} {QX : String → HS → Prop}
theorem FL.lt {own : String} {idx c i : Nat} (h : FL own idx c i) : c < 9 := by obtain ⟨_, _, _, _, h, _⟩ := h; exact h
theorem G_getI {idx c i a : Nat} (hF : FL (mN μ).cls idx c i) (hk : xK Y a = c) (hr : rf c i = false) (hd : decode (mC μ) pc = .ok (.getfield idx, 3)) (kk : G Γ μ R W k (pc + 3) L (.int (xI Y c i a) :: st) Y) : G Γ μ R W k pc L (.ref a :: st) Y := by
  intro α0 Y0 α X C E
  have hc := hF.lt
  refine J_getI hF (C.K hk (by omega)) hr hd ?_
  rw [(C.2.2.1 a (C.mem (by omega))).2.2.1]
  exact kk α0 Y0 α X C E
theorem G_getV {idx c i a : Nat} (hF : FL (mN μ).cls idx c i) (hk : xK Y a = c) (hr : rf c i = true) (hd : decode (mC μ) pc = .ok (.getfield idx, 3)) (kk : G Γ μ R W k (pc + 3) L (va_rf (xR Y c i a) :: st) Y) : G Γ μ R W k pc L (.ref a :: st) Y := by
  intro α0 Y0 α X C E
  have hc := hF.lt
  refine J_getV hF (C.K hk (by omega)) hd ?_
  have h := kk α0 Y0 α X C E
  unfold gv
  rw [hr, if_pos rfl, (C.2.2.1 a (C.mem (by omega))).2.2.2.1]
  cases hx : xR Y c i a with
  | none => rw [hx] at h; exact h
  | some r => rw [hx] at h; exact h
theorem G_getR {idx c i a : Nat} (hF : FL (mN μ).cls idx c i) (hk : xK Y a = c) (hr : rf c i = true) (hd : decode (mC μ) pc = .ok (.getfield idx, 3)) (kn : xR Y c i a = none → G Γ μ R W k (pc + 3) L (.null :: st) Y) (kk : ∀ r : Nat, xR Y c i a = some r → G Γ μ R W k (pc + 3) L (.ref r :: st) Y) : G Γ μ R W k pc L (.ref a :: st) Y := by
  refine G_getV hF hk hr hd ?_
  cases h : xR Y c i a with
  | none => exact kn h
  | some r => exact kk r h
theorem G_getS {idx c i a r : Nat} (hF : FL (mN μ).cls idx c i) (hk : xK Y a = c) (hr : rf c i = true) (h : xR Y c i a = some r) (hd : decode (mC μ) pc = .ok (.getfield idx, 3)) (kk : G Γ μ R W k (pc + 3) L (.ref r :: st) Y) : G Γ μ R W k pc L (.ref a :: st) Y := by
  refine G_getV hF hk hr hd ?_
  rw [h]
  exact kk
theorem G_getN {idx c i a : Nat} (hF : FL (mN μ).cls idx c i) (hk : xK Y a = c) (hr : rf c i = true) (h : xR Y c i a = none) (hd : decode (mC μ) pc = .ok (.getfield idx, 3)) (kk : G Γ μ R W k (pc + 3) L (.null :: st) Y) : G Γ μ R W k pc L (.ref a :: st) Y := by
  refine G_getV hF hk hr hd ?_
  rw [h]
  exact kk
theorem G_putI {idx c i a : Nat} {v : Int32} (hF : FL (mN μ).cls idx c i) (hW : FW c i) (hk : xK Y a = c) (ht : ft c i = .int) (hd : decode (mC μ) pc = .ok (.putfield idx, 3)) (kk : G Γ μ R W k (pc + 3) L st (sI Y c i a v)) : G Γ μ R W k pc L (.int v :: .ref a :: st) Y := by
  intro α0 Y0 α X C E
  have hc := hF.lt
  exact J_putI hF hW (C.K hk (by omega)) ht hd (kk α0 Y0 α _ (C.sI v (C.mem (by omega))) (E.same rfl))
theorem G_putZ {idx c i a : Nat} {v : Int32} (hF : FL (mN μ).cls idx c i) (hW : FW c i) (hk : xK Y a = c) (ht : ft c i = .boolean) (hv : v = 0 ∨ v = 1) (hd : decode (mC μ) pc = .ok (.putfield idx, 3)) (kk : G Γ μ R W k (pc + 3) L st (sI Y c i a v)) : G Γ μ R W k pc L (.int v :: .ref a :: st) Y := by
  intro α0 Y0 α X C E
  have hc := hF.lt
  exact J_putZ hF hW (C.K hk (by omega)) ht hv hd (kk α0 Y0 α _ (C.sI v (C.mem (by omega))) (E.same rfl))
theorem G_putIF {idx c i a : Nat} {v : Int32} (hF : FL (mN μ).cls idx c i) (hW : FF (mN μ).cls c i) (hin : (mN μ).name = "<init>") (hk : xK Y a = c) (ht : ft c i = .int) (hd : decode (mC μ) pc = .ok (.putfield idx, 3)) (kk : G Γ μ R W k (pc + 3) L st (sI Y c i a v)) : G Γ μ R W k pc L (.int v :: .ref a :: st) Y := by
  intro α0 Y0 α X C E
  have hc := hF.lt
  exact J_putIF hF hW hin (C.K hk (by omega)) ht hd (kk α0 Y0 α _ (C.sI v (C.mem (by omega))) (E.same rfl))
theorem G_putZF {idx c i a : Nat} {v : Int32} (hF : FL (mN μ).cls idx c i) (hW : FF (mN μ).cls c i) (hin : (mN μ).name = "<init>") (hk : xK Y a = c) (ht : ft c i = .boolean) (hv : v = 0 ∨ v = 1) (hd : decode (mC μ) pc = .ok (.putfield idx, 3)) (kk : G Γ μ R W k (pc + 3) L st (sI Y c i a v)) : G Γ μ R W k pc L (.int v :: .ref a :: st) Y := by
  intro α0 Y0 α X C E
  have hc := hF.lt
  exact J_putZF hF hW hin (C.K hk (by omega)) ht hv hd (kk α0 Y0 α _ (C.sI v (C.mem (by omega))) (E.same rfl))
theorem rf_cv {α : Nat → Nat} {o : Option Nat} {v : Value} (hv : va_rf o = v) : va_rf (o.map α) = cv α v := by
  subst hv
  cases o <;> rfl
theorem G_putR {idx c i a : Nat} {o : Option Nat} {v : Value} (hv : va_rf o = v) (ho : ∀ r, o = some r → xK Y r ≠ 99) (hF : FL (mN μ).cls idx c i) (hW : FW c i) (hk : xK Y a = c) {n : String} (ht : ft c i = .object n) (hd : decode (mC μ) pc = .ok (.putfield idx, 3)) (kk : G Γ μ R W k (pc + 3) L st (sR Y c i a o)) : G Γ μ R W k pc L (v :: .ref a :: st) Y := by
  intro α0 Y0 α X C E
  have hc := hF.lt
  exact J_putR (rf_cv hv) hF hW (C.K hk (by omega)) ht hd (kk α0 Y0 α _ (C.sR (C.mem (by omega)) (fun r hr => C.mem (ho r hr))) (E.same rfl))
theorem G_putRF {idx c i a : Nat} {o : Option Nat} {v : Value} (hv : va_rf o = v) (ho : ∀ r, o = some r → xK Y r ≠ 99) (hF : FL (mN μ).cls idx c i) (hW : FF (mN μ).cls c i) (hin : (mN μ).name = "<init>") (hk : xK Y a = c) {n : String} (ht : ft c i = .object n) (hd : decode (mC μ) pc = .ok (.putfield idx, 3)) (kk : G Γ μ R W k (pc + 3) L st (sR Y c i a o)) : G Γ μ R W k pc L (v :: .ref a :: st) Y := by
  intro α0 Y0 α X C E
  have hc := hF.lt
  exact J_putRF (rf_cv hv) hF hW hin (C.K hk (by omega)) ht hd (kk α0 Y0 α _ (C.sR (C.mem (by omega)) (fun r hr => C.mem (ho r hr))) (E.same rfl))
theorem G_putAF {idx c i a : Nat} {o : Option Nat} {v : Value} (hv : va_rf o = v) (ho : ∀ r, o = some r → xK Y r ≠ 99) (hF : FL (mN μ).cls idx c i) (hW : FF (mN μ).cls c i) (hin : (mN μ).name = "<init>") (hk : xK Y a = c) {n : FieldType} (ht : ft c i = .array n) (hd : decode (mC μ) pc = .ok (.putfield idx, 3)) (kk : G Γ μ R W k (pc + 3) L st (sR Y c i a o)) : G Γ μ R W k pc L (v :: .ref a :: st) Y := by
  intro α0 Y0 α X C E
  have hc := hF.lt
  exact J_putAF (rf_cv hv) hF hW hin (C.K hk (by omega)) ht hd (kk α0 Y0 α _ (C.sR (C.mem (by omega)) (fun r hr => C.mem (ho r hr))) (E.same rfl))
theorem G_alen {a c : Nat} {v : Int32} (hk : xK Y a = c) (hc : 10 ≤ c ∧ c ≤ 17) (hv : nI (xn Y a) = v) (hd : decode (mC μ) pc = .ok (.arraylength, 1)) (kk : G Γ μ R W k (pc + 1) L (.int v :: st) Y) : G Γ μ R W k pc L (.ref a :: st) Y := by
  intro α0 Y0 α X C E
  exact J_alen hc (C.K hk (by omega)) (by rw [(C.2.2.1 a (C.mem (by omega))).2.1]; exact hv) hd (kk α0 Y0 α X C E)
theorem G_iald {a j : Nat} {i : Int32} (hk : xK Y a = 10) (hi : i = nI j) (hj : j < xn Y a) (h2 : j < 2 ^ 31) (hd : decode (mC μ) pc = .ok (.iaload, 1)) (kk : G Γ μ R W k (pc + 1) L (.int (xA Y a j) :: st) Y) : G Γ μ R W k pc L (.int i :: .ref a :: st) Y := by
  intro α0 Y0 α X C E
  have h := C.2.2.1 a (C.mem (by omega))
  refine J_iald (C.K hk (by omega)) hi (by rw [h.2.1]; exact hj) h2 hd ?_
  rw [h.2.2.2.2.1]
  exact kk α0 Y0 α X C E
theorem G_bald {a j : Nat} {i : Int32} (hk : xK Y a = 11) (hi : i = nI j) (hj : j < xn Y a) (h2 : j < 2 ^ 31) (hd : decode (mC μ) pc = .ok (.baload, 1)) (kk : G Γ μ R W k (pc + 1) L (.int (xA Y a j) :: st) Y) : G Γ μ R W k pc L (.int i :: .ref a :: st) Y := by
  intro α0 Y0 α X C E
  have h := C.2.2.1 a (C.mem (by omega))
  refine J_bald (C.K hk (by omega)) hi (by rw [h.2.1]; exact hj) h2 hd ?_
  rw [h.2.2.2.2.1]
  exact kk α0 Y0 α X C E
theorem G_aaldV {a j c : Nat} {i : Int32} (hk : xK Y a = c) (hc : 12 ≤ c ∧ c < 18) (hi : i = nI j) (hj : j < xn Y a) (h2 : j < 2 ^ 31) (hd : decode (mC μ) pc = .ok (.aaload, 1)) (kk : G Γ μ R W k (pc + 1) L (va_rf (xP Y a j) :: st) Y) : G Γ μ R W k pc L (.int i :: .ref a :: st) Y := by
  intro α0 Y0 α X C E
  have h := C.2.2.1 a (C.mem (by omega))
  refine J_aaldV (C.K hk (by omega)) hc hi (by rw [h.2.1]; exact hj) h2 hd ?_
  rw [h.2.2.2.2.2.2]
  have h9 := kk α0 Y0 α X C E
  cases hx : xP Y a j with
  | none => rw [hx] at h9; exact h9
  | some r => rw [hx] at h9; exact h9
theorem G_aald {a j c : Nat} {i : Int32} (hk : xK Y a = c) (hc : 12 ≤ c ∧ c < 18) (hi : i = nI j) (hj : j < xn Y a) (h2 : j < 2 ^ 31) (hd : decode (mC μ) pc = .ok (.aaload, 1)) (kn : xP Y a j = none → G Γ μ R W k (pc + 1) L (.null :: st) Y) (kk : ∀ r : Nat, xP Y a j = some r → G Γ μ R W k (pc + 1) L (.ref r :: st) Y) : G Γ μ R W k pc L (.int i :: .ref a :: st) Y := by
  refine G_aaldV hk hc hi hj h2 hd ?_
  cases h : xP Y a j with
  | none => exact kn h
  | some r => exact kk r h
theorem G_aaldS {a j c r : Nat} {i : Int32} (hk : xK Y a = c) (hc : 12 ≤ c ∧ c < 18) (hi : i = nI j) (hj : j < xn Y a) (h2 : j < 2 ^ 31) (h : xP Y a j = some r) (hd : decode (mC μ) pc = .ok (.aaload, 1)) (kk : G Γ μ R W k (pc + 1) L (.ref r :: st) Y) : G Γ μ R W k pc L (.int i :: .ref a :: st) Y := by
  refine G_aaldV hk hc hi hj h2 hd ?_
  rw [h]
  exact kk
theorem G_iast {a j : Nat} {i x : Int32} (hk : xK Y a = 10) (hi : i = nI j) (hj : j < xn Y a) (h2 : j < 2 ^ 31) (hd : decode (mC μ) pc = .ok (.iastore, 1)) (kk : G Γ μ R W k (pc + 1) L st (sA Y a j x)) : G Γ μ R W k pc L (.int x :: .int i :: .ref a :: st) Y := by
  intro α0 Y0 α X C E
  have hm := C.mem (a := a) (by omega)
  exact J_iast (C.K hk (by omega)) hi (by rw [(C.2.2.1 a hm).2.1]; exact hj) h2 hd (kk α0 Y0 α _ (C.sA x hm) (E.same rfl))
theorem G_bast {a j : Nat} {i x : Int32} (hk : xK Y a = 11) (hi : i = nI j) (hj : j < xn Y a) (h2 : j < 2 ^ 31) (hx : x = 0 ∨ x = 1) (hd : decode (mC μ) pc = .ok (.bastore, 1)) (kk : G Γ μ R W k (pc + 1) L st (sA Y a j x)) : G Γ μ R W k pc L (.int x :: .int i :: .ref a :: st) Y := by
  intro α0 Y0 α X C E
  have hm := C.mem (a := a) (by omega)
  exact J_bast (C.K hk (by omega)) hi (by rw [(C.2.2.1 a hm).2.1]; exact hj) h2 hx hd (kk α0 Y0 α _ (C.sA x hm) (E.same rfl))
theorem G_aast {a j c b cb : Nat} {i : Int32} (hk : xK Y a = c) (hc : 12 ≤ c ∧ c < 18) (hi : i = nI j) (hj : j < xn Y a) (h2 : j < 2 ^ 31) (hb : xK Y b = cb) (hcb : cb < 9) (hcc : cN cb = eC c) (hd : decode (mC μ) pc = .ok (.aastore, 1)) (kk : G Γ μ R W k (pc + 1) L st (sP Y a j (some b))) : G Γ μ R W k pc L (.ref b :: .int i :: .ref a :: st) Y := by
  intro α0 Y0 α X C E
  have hm := C.mem (a := a) (by omega)
  have hmb := C.mem (a := b) (by omega)
  exact J_aast (C.K hk (by omega)) hc hi (by rw [(C.2.2.1 a hm).2.1]; exact hj) h2 (C.K hb (by omega)) hcb hcc hd (kk α0 Y0 α _ (C.sP hm hmb) (E.same rfl))
-- returns
def VZ (Γ : GTy) (μ : MTy) (QV : Option Value → HS → Prop) (W : WTy) : Prop := ∀ (α0 : Nat → Nat) (Y0 : HS), RZ Γ μ (QVc Γ (mA μ) α0 Y0 QV) (W α0 Y0)
theorem VZ.n : VZ Γ μ QV (Vn Γ μ QV) := fun _ _ => RZ.n
theorem VZ.x : VZ Γ μ QV (Vt Γ μ QV QX) := fun _ _ => RZ.x
theorem G_iret {v : Int32} (hz : VZ Γ μ QV W) (hd : decode (mC μ) pc = .ok (.ireturn, 1)) (hr : mR μ = some .int) (hk : k.1 ≤ mM μ ∧ k.2 ≤ mS μ) (hq : QV (some (.int v)) Y) : G Γ μ R W k pc L [.int v] Y :=
  fun α0 Y0 α X C E => J_iret (hz α0 Y0) hd hr hk ⟨α, Y, some (.int v), rfl, hq, C, E⟩
theorem G_zret {v : Int32} (hz : VZ Γ μ QV W) (hd : decode (mC μ) pc = .ok (.ireturn, 1)) (hr : mR μ = some .boolean) (hv : v = 0 ∨ v = 1) (hk : k.1 ≤ mM μ ∧ k.2 ≤ mS μ) (hq : QV (some (.int v)) Y) : G Γ μ R W k pc L [.int v] Y :=
  fun α0 Y0 α X C E => J_zret (hz α0 Y0) hd hr hv hk ⟨α, Y, some (.int v), rfl, hq, C, E⟩
theorem G_vret (hz : VZ Γ μ QV W) (hd : decode (mC μ) pc = .ok (.return_, 1)) (hr : mR μ = none) (hk : k.1 ≤ mM μ ∧ k.2 ≤ mS μ) (hq : QV none Y) : G Γ μ R W k pc L [] Y :=
  fun α0 Y0 α X C E => J_vret (hz α0 Y0) hd hr hk ⟨α, Y, none, rfl, hq, C, E⟩
theorem G_aret {v : Value} {n : String} (hz : VZ Γ μ QV W) (hd : decode (mC μ) pc = .ok (.areturn, 1)) (hr : mR μ = some (.object n)) (hv : v = .null ∨ ∃ a, v = .ref a) (hk : k.1 ≤ mM μ ∧ k.2 ≤ mS μ) (hq : QV (some v) Y) : G Γ μ R W k pc L [v] Y :=
  fun α0 Y0 α X C E => J_aret (hz α0 Y0) hd hr (by rcases hv with rfl | ⟨a, rfl⟩; exact Or.inl rfl; exact Or.inr ⟨_, rfl⟩) hk ⟨α, Y, some v, rfl, hq, C, E⟩
-- calls
/-- what an allocating call asks of the caller -/
def AOK (μ ν : MTy) (L : List (Option Value)) (rest : List Value) (Y : HS) : Prop := mA ν = true → mA μ = true ∧ (∀ r ∈ rfs L, xK Y r ≠ 99) ∧ (∀ r ∈ rfv rest, xK Y r ≠ 99)
theorem AOK.eq {ν : MTy} {rest : List Value} {α α' : Nat → Nat} {Y' : HS} (h : AOK μ ν L rest Y) (E : Ext (mA ν) α Y α' Y') : lm α' L = lm α L ∧ sm α' rest = sm α rest := by
  cases hA : mA ν
  · rw [hA] at E
    rw [E.1]
    exact ⟨rfl, rfl⟩
  · rw [hA] at E
    obtain ⟨-, h1, h2⟩ := h hA
    exact ⟨lm_eq (fun r hr => (E r (h1 r hr)).1), sm_eq (fun r hr => (E r (h2 r hr)).1)⟩
theorem G_contV {ν : MTy} {rest : List Value} {QV' : Option Value → HS → Prop} {k' : Nat × Nat} {pc' : Nat} (hA : AOK μ ν L rest Y) (kk : ∀ (v : Option Value) (Y' : HS), QV' v Y' → G Γ μ R W k' pc' L (v.toList ++ rest) Y')
    {α0 : Nat → Nat} {Y0 : HS} {α : Nat → Nat} (E : Ext (mA μ) α0 Y0 α Y) : ∀ (v : Option Value) (X' : HS), QVc Γ (mA ν) α Y QV' v X' → J Γ μ R (W α0 Y0) k' pc' (lm α L) (v.toList ++ sm α rest) X' := by
  rintro v X' ⟨α', Y', u, rfl, hq, C', E'⟩
  obtain ⟨e1, e2⟩ := hA.eq E'
  have h := kk u Y' hq α0 Y0 α' X' C' (E.trans E' (fun h => (hA h).1))
  rw [e1] at h
  have e3 : (u.map (cv α')).toList ++ sm α rest = sm α' (u.toList ++ rest) := by
    rw [← e2]
    cases u <;> simp [sm]
  rw [e3]
  exact h
theorem G_contX {ν : MTy} {QX' : String → HS → Prop} {k' : Nat × Nat} {pc' : Nat} (hA : AOK μ ν L [] Y) (kx : ∀ (E : String) (Y' : HS), QX' E Y' → GX Γ μ R W E k' pc' L Y')
    {α0 : Nat → Nat} {Y0 : HS} {α : Nat → Nat} (E : Ext (mA μ) α0 Y0 α Y) : ∀ (N : String) (X' : HS), QXc Γ (mA ν) α Y QX' N X' → JX Γ μ R (W α0 Y0) N k' pc' (lm α L) X' := by
  rintro N X' ⟨α', Y', hq, C', E'⟩
  obtain ⟨e1, e2⟩ := hA.eq E'
  have h := kx N Y' hq α0 Y0 α' X' C' (E.trans E' (fun h => (hA h).1))
  rw [e1] at h
  exact h
theorem AOK.nil {ν : MTy} {rest : List Value} (h : AOK μ ν L rest Y) : AOK μ ν L [] Y := fun q => ⟨(h q).1, (h q).2.1, fun _ hr => nomatch hr⟩
theorem sm_stV {α : Nat → Nat} {st0 as rest : List Value} {b : Nat} (h : st0 = as.reverse ++ .ref b :: rest) : sm α st0 = (sm α as).reverse ++ .ref (α b) :: sm α rest := by
  rw [h]; simp [sm, cv]
theorem sm_stS {α : Nat → Nat} {st0 as rest : List Value} (h : st0 = as.reverse ++ rest) : sm α st0 = (sm α as).reverse ++ sm α rest := by
  rw [h]; simp [sm]
theorem sm_8 {α : Nat → Nat} {rest : List Value} {n : Nat} (h : (rest.map fun v => v.category).sum ≤ n) : ((sm α rest).map fun v => v.category).sum ≤ n := by
  rw [sm_cat]; exact h
theorem G_callV {ν : MTy} {n idx b cb : Nat} {as rest : List Value} {st0 : List Value} {QV' : Option Value → HS → Prop} {QX' : String → HS → Prop} (hM : MOK ν n) (hl : LkV (mN μ).cls idx ν) (hR : RmOk R ν k) (hb : xK Y b = cb) (hcb : cb < 9) (hcc : cN cb = (mN ν).cls) (hn : as.length = n) (hst : st0 = as.reverse ++ .ref b :: rest) (hcat : (rest.map fun v => v.category).sum ≤ 8) (hA : AOK μ ν L rest Y) (hd : decode (mC μ) pc = .ok (.invokevirtual idx, 3)) (hc : Tt Γ ν (.ref b :: as) Y QV' QX')
    (kk : ∀ (v : Option Value) (Y' : HS), QV' v Y' → G Γ μ R W (k.1 + mM ν, k.2 + mS ν) (pc + 3) L (v.toList ++ rest) Y') (kx : ∀ (E : String) (Y' : HS), QX' E Y' → GX Γ μ R W E (k.1 + mM ν, k.2 + mS ν) pc L Y') : G Γ μ R W k pc L st0 Y :=
  fun α0 Y0 α X C E => J_callV hM hl hR (C.K hb (by omega)) hcb hcc (as := sm α as) (by simpa [sm] using hn) (sm_stV hst) (sm_8 hcat) hd (hc α X C) (G_contV hA kk E) (G_contX hA.nil kx E)
theorem G_callS {ν : MTy} {n idx : Nat} {as rest : List Value} {st0 : List Value} {QV' : Option Value → HS → Prop} {QX' : String → HS → Prop} (hM : MOK ν n) (hl : LkS (mN μ).cls idx ν) (hR : RmOk R ν k) (hn : as.length = n) (hst : st0 = as.reverse ++ rest) (hcat : (rest.map fun v => v.category).sum ≤ 8) (hA : AOK μ ν L rest Y) (hd : decode (mC μ) pc = .ok (.invokestatic idx, 3)) (hc : Tt Γ ν as Y QV' QX')
    (kk : ∀ (v : Option Value) (Y' : HS), QV' v Y' → G Γ μ R W (k.1 + mM ν, k.2 + mS ν) (pc + 3) L (v.toList ++ rest) Y') (kx : ∀ (E : String) (Y' : HS), QX' E Y' → GX Γ μ R W E (k.1 + mM ν, k.2 + mS ν) pc L Y') : G Γ μ R W k pc L st0 Y :=
  fun α0 Y0 α X C E => J_callS hM hl hR (as := sm α as) (by simpa [sm] using hn) (sm_stS hst) (sm_8 hcat) hd (hc α X C) (G_contV hA kk E) (G_contX hA.nil kx E)
theorem G_callSW {ν : MTy} {n idx : Nat} {as rest : List Value} {st0 : List Value} {QV' : Option Value → HS → Prop} {QX' : String → HS → Prop} (hM : MOW ν n) (hl : LkS (mN μ).cls idx ν) (hR : RmOk R ν k) (hn : as.length = n) (hst : st0 = as.reverse ++ rest) (hcat : (rest.map fun v => v.category).sum ≤ 8) (hA : AOK μ ν L rest Y) (hd : decode (mC μ) pc = .ok (.invokestatic idx, 3)) (hc : Tw Γ ν as Y QV' QX')
    (kk : ∀ (v : Option Value) (Y' : HS), QV' v Y' → G Γ μ R W (k.1 + mM ν, k.2 + mS ν) (pc + 3) L (v.toList ++ rest) Y') (kx : ∀ (E : String) (Y' : HS), QX' E Y' → GX Γ μ R W E (k.1 + mM ν, k.2 + mS ν) pc L Y') : G Γ μ R W k pc L st0 Y :=
  fun α0 Y0 α X C E => J_callSW hM hl hR (as := sm α as) (by simpa [sm] using hn) (sm_stS hst) (sm_8 hcat) hd (hc α X C) (G_contV hA kk E) (G_contX hA.nil kx E)
theorem G_callVn {ν : MTy} {n idx b cb : Nat} {as rest : List Value} {st0 : List Value} {QV' : Option Value → HS → Prop} (hM : MOK ν n) (hl : LkV (mN μ).cls idx ν) (hR : RmOk R ν k) (hb : xK Y b = cb) (hcb : cb < 9) (hcc : cN cb = (mN ν).cls) (hn : as.length = n) (hst : st0 = as.reverse ++ .ref b :: rest) (hcat : (rest.map fun v => v.category).sum ≤ 8) (hA : AOK μ ν L rest Y) (hd : decode (mC μ) pc = .ok (.invokevirtual idx, 3)) (hc : Tn Γ ν (.ref b :: as) Y QV')
    (kk : ∀ (v : Option Value) (Y' : HS), QV' v Y' → G Γ μ R W (k.1 + mM ν, k.2 + mS ν) (pc + 3) L (v.toList ++ rest) Y') : G Γ μ R W k pc L st0 Y :=
  fun α0 Y0 α X C E => J_callVn hM hl hR (C.K hb (by omega)) hcb hcc (as := sm α as) (by simpa [sm] using hn) (sm_stV hst) (sm_8 hcat) hd (hc α X C) (G_contV hA kk E)
theorem G_callSn {ν : MTy} {n idx : Nat} {as rest : List Value} {st0 : List Value} {QV' : Option Value → HS → Prop} (hM : MOK ν n) (hl : LkS (mN μ).cls idx ν) (hR : RmOk R ν k) (hn : as.length = n) (hst : st0 = as.reverse ++ rest) (hcat : (rest.map fun v => v.category).sum ≤ 8) (hA : AOK μ ν L rest Y) (hd : decode (mC μ) pc = .ok (.invokestatic idx, 3)) (hc : Tn Γ ν as Y QV')
    (kk : ∀ (v : Option Value) (Y' : HS), QV' v Y' → G Γ μ R W (k.1 + mM ν, k.2 + mS ν) (pc + 3) L (v.toList ++ rest) Y') : G Γ μ R W k pc L st0 Y :=
  fun α0 Y0 α X C E => J_callSn hM hl hR (as := sm α as) (by simpa [sm] using hn) (sm_stS hst) (sm_8 hcat) hd (hc α X C) (G_contV hA kk E)
theorem G_callNS {ν : MTy} {n idx : Nat} {host : String} {as rest : List Value} {st0 : List Value} {QV' : Option Value → HS → Prop} (hM : MOK ν n) (hl : LkNS (mN μ).cls idx host ν) (hR : RmOk R ν k) (hn : as.length = n) (hst : st0 = as.reverse ++ rest) (hcat : (rest.map fun v => v.category).sum ≤ 8) (hA : AOK μ ν L rest Y) (hd : decode (mC μ) pc = .ok (.invokestatic idx, 3)) (hc : Tn Γ ν as Y QV')
    (kk : ∀ (v : Option Value) (Y' : HS), QV' v Y' → G Γ μ R W (k.1 + mM ν, k.2 + mS ν) (pc + 3) L (v.toList ++ rest) Y') : G Γ μ R W k pc L st0 Y :=
  fun α0 Y0 α X C E => J_callNS hM hl hR (as := sm α as) (by simpa [sm] using hn) (sm_stS hst) (sm_8 hcat) hd (hc α X C) (G_contV hA kk E)
theorem G_callNI {ν : MTy} {n idx b : Nat} {host : String} {as rest : List Value} {st0 : List Value} {QV' : Option Value → HS → Prop} (hM : MOK ν n) (hl : LkNI (mN μ).cls idx host ν) (hR : RmOk R ν k) (hn : as.length = n) (hst : st0 = as.reverse ++ .ref b :: rest) (hcat : (rest.map fun v => v.category).sum ≤ 8) (hA : AOK μ ν L rest Y) (hd : decode (mC μ) pc = .ok (.invokespecial idx, 3)) (hc : Tn Γ ν (.ref b :: as) Y QV')
    (kk : ∀ (v : Option Value) (Y' : HS), QV' v Y' → G Γ μ R W (k.1 + mM ν, k.2 + mS ν) (pc + 3) L (v.toList ++ rest) Y') : G Γ μ R W k pc L st0 Y :=
  fun α0 Y0 α X C E => J_callNI hM hl hR (as := sm α as) (by simpa [sm] using hn) (sm_stV hst) (sm_8 hcat) hd (hc α X C) (G_contV hA kk E)
theorem G_callI {ν : MTy} {n idx b : Nat} {as rest : List Value} {st0 : List Value} {QV' : Option Value → HS → Prop} (hM : MOK ν n) (hl : LkI (mN μ).cls idx ν) (hR : RmOk R ν k) (hn : as.length = n) (hst : st0 = as.reverse ++ .ref b :: rest) (hcat : (rest.map fun v => v.category).sum ≤ 8) (hA : AOK μ ν L rest Y) (hd : decode (mC μ) pc = .ok (.invokespecial idx, 3)) (hc : Tn Γ ν (.ref b :: as) Y QV')
    (kk : ∀ (v : Option Value) (Y' : HS), QV' v Y' → G Γ μ R W (k.1 + mM ν, k.2 + mS ν) (pc + 3) L (v.toList ++ rest) Y') : G Γ μ R W k pc L st0 Y :=
  fun α0 Y0 α X C E => J_callI hM hl hR (as := sm α as) (by simpa [sm] using hn) (sm_stV hst) (sm_8 hcat) hd (hc α X C) (G_contV hA kk E)
theorem G_callU {ν : MTy} {n idx b cb : Nat} {owner : String} {x : MethodName} {as rest : List Value} {st0 : List Value} {QV' : Option Value → HS → Prop} (hM : MOK ν n) (hl : LkU (mN μ).cls idx (cN cb) owner x ν) (hx : (parseMethodDescriptor x.desc).map (fun d => d.parameters.length) = some n) (hR : RmOk R ν k) (hb : xK Y b = cb) (hcb : cb < 9) (hn : as.length = n) (hst : st0 = as.reverse ++ .ref b :: rest) (hcat : (rest.map fun v => v.category).sum ≤ 8) (hA : AOK μ ν L rest Y) (hd : decode (mC μ) pc = .ok (.invokevirtual idx, 3)) (hc : Tn Γ ν (.ref b :: as) Y QV')
    (kk : ∀ (v : Option Value) (Y' : HS), QV' v Y' → G Γ μ R W (k.1 + mM ν, k.2 + mS ν) (pc + 3) L (v.toList ++ rest) Y') : G Γ μ R W k pc L st0 Y :=
  fun α0 Y0 α X C E => J_callU hM hl hx hR (C.K hb (by omega)) hcb (as := sm α as) (by simpa [sm] using hn) (sm_stV hst) (sm_8 hcat) hd (hc α X C) (G_contV hA kk E)
theorem G_objInit {idx a : Nat} {rest : List Value} (hl : Cond.methodLink (mN μ).cls idx Lib.objectInit ∈ BW) (hw : Cond.instanceMethod Lib.objectInit ∈ BW ∧ Cond.code Lib.objectInit ⟨#[0xb1]⟩ 1 none ∈ BW) (hf : 1 ≤ R.frames ∧ (rest.map fun v => v.category).sum + 12 ≤ R.locals) (hd : decode (mC μ) pc = .ok (.invokespecial idx, 3)) (kk : G Γ μ R W k (pc + 3) L rest Y) : G Γ μ R W k pc L (.ref a :: rest) Y :=
  fun α0 Y0 α X C E => J_objInit (a := α a) (rest := sm α rest) hl hw ⟨hf.1, by rw [sm_cat]; exact hf.2⟩ hd (kk α0 Y0 α X C E)
theorem G_max {idx : Nat} {x y : Int32} {rest : List Value} (hl : Cond.methodLink (mN μ).cls idx Lib.Math.max.name ∈ BW) (hw : Cond.static Lib.Math.max.name ∈ BW ∧ Cond.initialized "java/lang/Math" ∈ BW ∧ Cond.code Lib.Math.max.name Lib.Math.max.code 2 (some .int) ∈ BW) (hf : 1 ≤ R.frames ∧ (rest.map fun v => v.category).sum + 13 ≤ R.locals) (hk : k.1 ≤ R.cells ∧ k.2 ≤ R.slots) (hd : decode (mC μ) pc = .ok (.invokestatic idx, 3)) (kk : G Γ μ R W k (pc + 3) L (.int (if x < y then y else x) :: rest) Y) : G Γ μ R W k pc L (.int y :: .int x :: rest) Y :=
  fun α0 Y0 α X C E => J_max (rest := sm α rest) hl hw ⟨hf.1, by rw [sm_cat]; exact hf.2⟩ hk hd (kk α0 Y0 α X C E)
theorem G_min {idx : Nat} {x y : Int32} {rest : List Value} (hl : Cond.methodLink (mN μ).cls idx Lib.Math.min.name ∈ BW) (hw : Cond.static Lib.Math.min.name ∈ BW ∧ Cond.initialized "java/lang/Math" ∈ BW ∧ Cond.code Lib.Math.min.name Lib.Math.min.code 2 (some .int) ∈ BW) (hf : 1 ≤ R.frames ∧ (rest.map fun v => v.category).sum + 13 ≤ R.locals) (hk : k.1 ≤ R.cells ∧ k.2 ≤ R.slots) (hd : decode (mC μ) pc = .ok (.invokestatic idx, 3)) (kk : G Γ μ R W k (pc + 3) L (.int (if y < x then y else x) :: rest) Y) : G Γ μ R W k pc L (.int y :: .int x :: rest) Y :=
  fun α0 Y0 α X C E => J_min (rest := sm α rest) hl hw ⟨hf.1, by rw [sm_cat]; exact hf.2⟩ hk hd (kk α0 Y0 α X C E)
theorem GX_out {E : String} (hh : mH μ = []) (hk : k.1 ≤ mM μ ∧ k.2 ≤ mS μ) (hq : QX E Y) : GX Γ μ R (Vt Γ μ QV QX) E k pc L Y :=
  fun α0 Y0 α X C Ex => JX_out hh hk ⟨α, Y, hq, C, Ex⟩
theorem G_throw {E : String} {ik is ic : Nat} (hT : TW (mN μ).cls E ik is ic) (hh : mH μ = []) (d0 : decode (mC μ) pc = .ok (.new ik, 3)) (d3 : decode (mC μ) (pc + 3) = .ok (.dup, 1)) (d4 : decode (mC μ) (pc + 4) = .ok (.ldc is, 2)) (d6 : decode (mC μ) (pc + 6) = .ok (.invokespecial ic, 3)) (d9 : decode (mC μ) (pc + 9) = .ok (.athrow, 1))
    (hR : 5 < R.frames ∧ (st.map fun v => v.category).sum + 82 ≤ R.locals ∧ k.1 + 1 ≤ R.cells ∧ k.2 + 6 ≤ R.slots) (hc : k.1 + 1 ≤ mM μ ∧ k.2 + 6 ≤ mS μ) (hq : QX E Y) : G Γ μ R (Vt Γ μ QV QX) k pc L st Y :=
  fun α0 Y0 α X C Ex => J_throw hT hh d0 d3 d4 d6 d9 ⟨hR.1, by rw [sm_cat]; exact hR.2.1, hR.2.2⟩ hc ⟨α, Y, hq, C, Ex⟩
theorem G_throwW {E : String} {ik is ic : Nat} (hT : TW (mN μ).cls E ik is ic) (hh : mH μ = []) (d0 : decode (mC μ) pc = .ok (.new ik, 3)) (d3 : decode (mC μ) (pc + 3) = .ok (.dup, 1)) (d4 : decode (mC μ) (pc + 4) = .ok (.ldc_w is, 3)) (d7 : decode (mC μ) (pc + 7) = .ok (.invokespecial ic, 3)) (d10 : decode (mC μ) (pc + 10) = .ok (.athrow, 1))
    (hR : 5 < R.frames ∧ (st.map fun v => v.category).sum + 82 ≤ R.locals ∧ k.1 + 1 ≤ R.cells ∧ k.2 + 6 ≤ R.slots) (hc : k.1 + 1 ≤ mM μ ∧ k.2 + 6 ≤ mS μ) (hq : QX E Y) : G Γ μ R (Vt Γ μ QV QX) k pc L st Y :=
  fun α0 Y0 α X C Ex => J_throwW hT hh d0 d3 d4 d7 d10 ⟨hR.1, by rw [sm_cat]; exact hR.2.1, hR.2.2⟩ hc ⟨α, Y, hq, C, Ex⟩
/-- caught: the handler puts the exception into a local and goes on -/
theorem J_weak {Z : List Frame → Array Value → State → State → Prop} {L1 L2 : List (Option Value)} {X : HS} {st : List Value} (h : ∀ (i : Nat) (v : Value), L2[i]? = some (some v) → L1[i]? = some (some v)) (kk : J Γ μ R Z k pc L2 st X) : J Γ μ R Z k pc L1 st X :=
  fun p e s m args below meth c H locs ls C S P Lr => kk p e s m args below meth c H locs ls C S P ⟨Lr.1, Lr.2.1, fun i v hi => Lr.2.2 i v (h i v hi)⟩
theorem GX_catch {E name : String} (pre : List ExceptionTableEntry) (x : ExceptionTableEntry) (suf : List ExceptionTableEntry) (hsplit : tableOf (mH μ) = pre ++ x :: suf) (hpass : ∀ z ∈ pre, covers z pc = false ∨ (z.catchType ≠ 0 ∧ ∃ nm : String, Cond.classLink (mN μ).cls z.catchType nm ∈ BW ∧ (E, nm) ∈ nCL)) (hx : covers x pc = true) (h0 : x.catchType ≠ 0) (hl : Cond.classLink (mN μ).cls x.catchType name ∈ BW) (hc : Cond.castable E name ∈ XW) {hp i len : Nat} (hpc : x.handlerPc = hp)
    (hd : (∃ n : Fin 4, (n : Nat) = i ∧ len = 1 ∧ decode (mC μ) hp = .ok (.astore_n n, 1)) ∨ (len = 2 ∧ decode (mC μ) hp = .ok (.astore i, 2))) (hn : i < mL μ) (kk : G Γ μ R W k (hp + len) (L.set i none) [] Y) : GX Γ μ R W E k pc L Y := by
  intro α0 Y0 α X C Ex
  refine JX_catch pre x suf hsplit hpass hx h0 hl hc hpc (fun q => ?_)
  have K := kk α0 Y0 α X C Ex
  have key : ∀ (j : Nat) (v : Value), (lm α (L.set i none))[j]? = some (some v) → ((lm α L).set i (some (.ref q)))[j]? = some (some v) := by
    intro j v hj
    by_cases e : j = i
    · subst e
      simp only [lm, List.getElem?_map, List.getElem?_set_self'] at hj
      cases hL : L[j]? <;> rw [hL] at hj <;> simp at hj
    · rw [List.getElem?_set_ne (Ne.symm e)]
      simp only [lm, List.getElem?_map, List.getElem?_set_ne (Ne.symm e)] at hj ⊢
      exact hj
  rcases hd with ⟨n, rfl, rfl, hd⟩ | ⟨rfl, hd⟩
  · exact J_astore_n hd hn (J_weak key K)
  · exact J_astore hd hn (J_weak key K)
-- new cells
theorem Ext.new {α0 α α' : Nat → Nat} {Y0 Y' : HS} {z q c : Nat} (E : Ext (mA μ) α0 Y0 α Y) (hA : mA μ = true) (hid : xK Y z = 99) (e1 : α' = va_up α z q) (e2 : xK Y' = va_up (xK Y) z c) (hc : c ≠ 99) : Ext (mA μ) α0 Y0 α' Y' := by
  rw [hA] at E ⊢
  intro a ha
  obtain ⟨h1, h2⟩ := E a ha
  have hne : a ≠ z := fun e => h2 (by rw [e]; exact hid)
  rw [e1, e2, va_up_ne _ _ hne, va_up_ne _ _ hne]
  exact ⟨h1, h2⟩
theorem fresh_eq {α : Nat → Nat} {z q : Nat} (h1 : z ∉ rfs L) (h2 : z ∉ rfv st) : lm (va_up α z q) L = lm α L ∧ sm (va_up α z q) st = sm α st :=
  ⟨lm_eq (fun r hr => va_up_ne _ _ (fun e => h1 (e ▸ hr))), sm_eq (fun r hr => va_up_ne _ _ (fun e => h2 (e ▸ hr)))⟩
theorem fresh_top {α : Nat → Nat} {z q : Nat} (h2 : z ∉ rfv st) : sm (va_up α z q) (.ref z :: st) = .ref q :: sm α st := by
  show cv (va_up α z q) (.ref z) :: sm (va_up α z q) st = _
  rw [(fresh_eq (L := []) (fun h => nomatch h) h2).2]
  simp [cv, va_up_self]
theorem CR.mk9 {α : Nat → Nat} {X : HS} (C : CR Γ α Y X) {z q c n : Nat} {f : Nat → Int32} (hid : xK Y z = 99) (hlt : z < 1000000000) (hq : q ∉ xL X) (hc : c ≠ 99) : CR Γ (va_up α z q) (nX Y z c n f) (nX X q c n f) :=
  C.new (c := c) hid hlt hq hc rfl rfl rfl rfl
    ⟨by simp [nX, xn, va_up_self], fun c k => by simp [nX, xI], fun c k => by simp [nX, xR], fun i => by simp [nX, xA, va_up_self], fun i => by simp [nX, xJ, va_up_self], fun i => by simp [nX, xP, va_up_self]⟩
    (fun a b ha hb => ⟨⟨va_up_ne _ _ ha, va_up_ne _ _ hb⟩, fun c k => by simp [nX, xI, ha, hb], fun c k => by simp [nX, xR, ha, hb], fun i => ⟨congrFun (va_up_ne _ _ ha) i, congrFun (va_up_ne _ _ hb) i⟩, fun i => ⟨congrFun (va_up_ne _ _ ha) i, congrFun (va_up_ne _ _ hb) i⟩, fun i => ⟨congrFun (va_up_ne _ _ ha) i, congrFun (va_up_ne _ _ hb) i⟩⟩)
theorem G_fresh {z c n : Nat} {f : Nat → Int32} {k' : Nat × Nat} {pc' : Nat} (hA : mA μ = true) (hid : xK Y z = 99) (hlt : z < 1000000000) (hf : z ∉ rfs L ∧ z ∉ rfv st) (hc : c ≠ 99) (kk : G Γ μ R W k' pc' L (.ref z :: st) (nX Y z c n f)) {α0 : Nat → Nat} {Y0 : HS} {α : Nat → Nat} {X : HS} (C : CR Γ α Y X) (E : Ext (mA μ) α0 Y0 α Y) : ∀ q : Nat, q ∉ xL X → xK X q = 99 → J Γ μ R (W α0 Y0) k' pc' (lm α L) (.ref q :: sm α st) (nX X q c n f) := by
  intro q hq hk
  have h := kk α0 Y0 _ _ (C.mk9 hid hlt hq hc) (E.new hA hid rfl rfl hc)
  rw [(fresh_eq (α := α) (q := q) hf.1 hf.2).1, fresh_top hf.2] at h
  exact h
theorem G_new {c idx : Nat} (z : Nat) (hA : mA μ = true) (hid : xK Y z = 99) (hlt : z < 1000000000) (hf : z ∉ rfs L ∧ z ∉ rfv st) (hc : c < 9) (hl : Cond.classLink (mN μ).cls idx (cN c) ∈ BW) (hi : Cond.instantiable (cN c) (nf c) ∈ BW) (h0 : Cond.initialized (cN c) ∈ BW) (hR : k.1 + 1 ≤ R.cells ∧ k.2 + nf c ≤ R.slots) (hd : decode (mC μ) pc = .ok (.new idx, 3))
    (kk : G Γ μ R W (k.1 + 1, k.2 + nf c) (pc + 3) L (.ref z :: st) (nO Y z c)) : G Γ μ R W k pc L st Y :=
  fun α0 Y0 α X C E => J_new hc hl hi h0 hR hd (G_fresh hA hid hlt hf (by omega) kk C E)
theorem G_newI {n : Int32} {N : Nat} (z : Nat) (hA : mA μ = true) (hid : xK Y z = 99) (hlt : z < 1000000000) (hf : z ∉ rfs L ∧ z ∉ rfv st) (hw : Cond.arrayClass .int ∈ BW) (hn : n = nI N) (hN : N < 2 ^ 27) (hR : k.1 + 1 ≤ R.cells ∧ k.2 + N ≤ R.slots) (hd : decode (mC μ) pc = .ok (.newarray .int, 2))
    (kk : G Γ μ R W (k.1 + 1, k.2 + N) (pc + 2) L (.ref z :: st) (nA Y z 10 N (fun _ => 0))) : G Γ μ R W k pc L (.int n :: st) Y :=
  fun α0 Y0 α X C E => J_newI hw hn hN hR hd (G_fresh hA hid hlt hf (by omega) kk C E)
theorem G_newZ {n : Int32} {N : Nat} (z : Nat) (hA : mA μ = true) (hid : xK Y z = 99) (hlt : z < 1000000000) (hf : z ∉ rfs L ∧ z ∉ rfv st) (hw : Cond.arrayClass .boolean ∈ BW) (hn : n = nI N) (hN : N < 2 ^ 27) (hR : k.1 + 1 ≤ R.cells ∧ k.2 + N ≤ R.slots) (hd : decode (mC μ) pc = .ok (.newarray .boolean, 2))
    (kk : G Γ μ R W (k.1 + 1, k.2 + N) (pc + 2) L (.ref z :: st) (nA Y z 11 N (fun _ => 0))) : G Γ μ R W k pc L (.int n :: st) Y :=
  fun α0 Y0 α X C E => J_newZ hw hn hN hR hd (G_fresh hA hid hlt hf (by omega) kk C E)
theorem G_newP {n : Int32} {N c idx : Nat} (z : Nat) (hA : mA μ = true) (hid : xK Y z = 99) (hlt : z < 1000000000) (hf : z ∉ rfs L ∧ z ∉ rfv st) (hc : 12 ≤ c ∧ c < 18) (hl : Cond.classLink (mN μ).cls idx (eC c) ∈ BW) (hw : Cond.arrayOver (.object (eC c)) ∈ XW) (hn : n = nI N) (hN : N < 2 ^ 27) (hR : k.1 + 1 ≤ R.cells ∧ k.2 + N ≤ R.slots) (hd : decode (mC μ) pc = .ok (.anewarray idx, 3))
    (kk : G Γ μ R W (k.1 + 1, k.2 + N) (pc + 3) L (.ref z :: st) (nP Y z c N)) : G Γ μ R W k pc L (.int n :: st) Y :=
  fun α0 Y0 α X C E => J_newP hc hl hw hn hN hR hd (G_fresh hA hid hlt hf (by omega) kk C E)
-- statics
theorem G_getst {i idx : Nat} (hi : i < 4) (hl : Cond.fieldLink (mN μ).cls idx "BaulkHall" (nSt i) "[I" ∈ BW ∨ ∃ host, Cond.fieldLinkNest (mN μ).cls idx "BaulkHall" (nSt i) "[I" host ∈ XW) (hd : decode (mC μ) pc = .ok (.getstatic idx, 3)) (kk : G Γ μ R W k (pc + 3) L (.ref (sid i) :: st) Y) : G Γ μ R W k pc L st Y := by
  intro α0 Y0 α X C E
  have h := kk α0 Y0 α X C E
  have e : sm α (.ref (sid i) :: st) = .ref (gt Γ i).1 :: sm α st := by
    show Value.ref (α (sid i)) :: sm α st = _
    rw [C.2.2.2.2.1 i (by omega)]
  rw [e] at h
  exact J_getst hi hl hd h
theorem G_sald {i j : Nat} {x : Int32} (hi : i < 5) (hx : x = nI j) (hj : j < (gt Γ i).2.1) (h2 : j < 2 ^ 31) (hd : decode (mC μ) pc = .ok (.iaload, 1)) (kk : G Γ μ R W k (pc + 1) L (.int ((gt Γ i).2.2 j) :: st) Y) : G Γ μ R W k pc L (.int x :: .ref (sid i) :: st) Y := by
  intro α0 Y0 α X C E
  have e : sm α (.int x :: .ref (sid i) :: st) = .int x :: .ref (gt Γ i).1 :: sm α st := by
    show Value.int x :: Value.ref (α (sid i)) :: sm α st = _
    rw [C.2.2.2.2.1 i (by omega)]
  rw [e]
  exact J_sald hi hx hj h2 hd (kk α0 Y0 α X C E)
theorem G_slen {i : Nat} {v : Int32} (hi : i < 5) (hv : nI (gt Γ i).2.1 = v) (hd : decode (mC μ) pc = .ok (.arraylength, 1)) (kk : G Γ μ R W k (pc + 1) L (.int v :: st) Y) : G Γ μ R W k pc L (.ref (sid i) :: st) Y := by
  intro α0 Y0 α X C E
  have e : sm α (.ref (sid i) :: st) = .ref (gt Γ i).1 :: sm α st := by
    show Value.ref (α (sid i)) :: sm α st = _
    rw [C.2.2.2.2.1 i (by omega)]
  rw [e]
  exact J_slen hi hv hd (kk α0 Y0 α X C E)
theorem G_clone {i idx : Nat} (z : Nat) (hA : mA μ = true) (hid : xK Y z = 99) (hlt : z < 1000000000) (hf : z ∉ rfs L ∧ z ∉ rfv st) (hi : i < 4) (hl : Cond.methodLink (mN μ).cls idx ⟨"[I", "clone", "()Ljava/lang/Object;"⟩ ∈ BW) (hw : Cond.sameMethod "[I" "java/lang/Object" "clone" "()Ljava/lang/Object;" ∈ BW ∧ Cond.native ⟨"java/lang/Object", "clone", "()Ljava/lang/Object;"⟩ ∈ BW ∧ Cond.instanceMethod ⟨"java/lang/Object", "clone", "()Ljava/lang/Object;"⟩ ∈ BW ∧ Cond.selects "[I" ⟨"[I", "clone", "()Ljava/lang/Object;"⟩ ⟨"java/lang/Object", "clone", "()Ljava/lang/Object;"⟩ ∈ BW ∧ Cond.castable "[I" "java/lang/Cloneable" ∈ XW) (hfr : 1 ≤ R.frames ∧ (st.map fun v => v.category).sum + 14 ≤ R.locals) (hR : k.1 + 1 ≤ R.cells ∧ k.2 + (gt Γ i).2.1 ≤ R.slots) (hd : decode (mC μ) pc = .ok (.invokevirtual idx, 3))
    (kk : G Γ μ R W (k.1 + 1, k.2 + (gt Γ i).2.1) (pc + 3) L (.ref z :: st) (nA Y z 10 (gt Γ i).2.1 (gt Γ i).2.2)) : G Γ μ R W k pc L (.ref (sid i) :: st) Y := by
  intro α0 Y0 α X C E
  have e : sm α (.ref (sid i) :: st) = .ref (gt Γ i).1 :: sm α st := by
    show Value.ref (α (sid i)) :: sm α st = _
    rw [C.2.2.2.2.1 i (by omega)]
  rw [e]
  exact J_clone hi hl hw ⟨hfr.1, by rw [sm_cat]; exact hfr.2⟩ hR hd (G_fresh hA hid hlt hf (by omega) kk C E)
theorem G_castI {idx a : Nat} (hk : xK Y a = 10) (hl : Cond.classLink (mN μ).cls idx "[I" ∈ BW) (hd : decode (mC μ) pc = .ok (.checkcast idx, 3)) (kk : G Γ μ R W k (pc + 3) L (.ref a :: st) Y) : G Γ μ R W k pc L (.ref a :: st) Y :=
  fun α0 Y0 α X C E => J_castI (C.K hk (by omega)) hl hd (kk α0 Y0 α X C E)
end GH
