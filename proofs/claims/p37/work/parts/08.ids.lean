-- ===== THE SECOND LAYER: ids of our choosing in place of addresses; α tells the address of each =====
def cv (α : Nat → Nat) : Value → Value := fun v => match v with
  | .ref a => .ref (α a)
  | v => v
def lm (α : Nat → Nat) (L : List (Option Value)) : List (Option Value) := L.map (Option.map (cv α))
def sm (α : Nat → Nat) (st : List Value) : List Value := st.map (cv α)
def sid (i : Nat) : Nat := 1000000000 + i
theorem cv_cat (α : Nat → Nat) (v : Value) : (cv α v).category = v.category := by cases v <;> rfl
theorem sm_cat (α : Nat → Nat) (st : List Value) : (sm α st).map (fun v => v.category) = st.map (fun v => v.category) := by
  simp [sm, List.map_map, Function.comp_def, cv_cat]
theorem lm_at {α : Nat → Nat} {L : List (Option Value)} {i : Nat} {v : Value} (h : L[i]? = some (some v)) : (lm α L)[i]? = some (some (cv α v)) := by
  simp [lm, h]
theorem lm_set (α : Nat → Nat) (L : List (Option Value)) (i : Nat) (v : Value) : (lm α L).set i (some (cv α v)) = lm α (L.set i (some v)) := by
  simp [lm, List.map_set]
/-- X holds Y, each id at its address -/
def CR (Γ : GTy) (α : Nat → Nat) (Y X : HS) : Prop :=
  (∀ a, a ∈ xL Y → ∀ b, b ∈ xL Y → α a = α b → a = b) ∧ xL X = (xL Y).map α ∧
  (∀ a, a ∈ xL Y → xK X (α a) = xK Y a ∧ xn X (α a) = xn Y a ∧ (∀ c k, xI X c k (α a) = xI Y c k a) ∧ (∀ c k, xR X c k (α a) = (xR Y c k a).map α) ∧ (∀ i, xA X (α a) i = xA Y a i) ∧ (∀ i, xJ X (α a) i = xJ Y a i) ∧ (∀ i, xP X (α a) i = (xP Y a i).map α)) ∧
  (∀ a, a ∉ xL Y ↔ xK Y a = 99) ∧ (∀ i, i < 5 → α (sid i) = (gt Γ i).1) ∧ (∀ a, a ∈ xL Y → a < 1000000000) ∧
  (∀ a, a ∈ xL Y → (∀ c k r, xR Y c k a = some r → r ∈ xL Y) ∧ (∀ i r, xP Y a i = some r → r ∈ xL Y))
theorem CR.mem {Γ : GTy} {α : Nat → Nat} {Y X : HS} (h : CR Γ α Y X) {a : Nat} (hk : xK Y a ≠ 99) : a ∈ xL Y := by
  by_cases q : a ∈ xL Y
  · exact q
  · exact absurd ((h.2.2.2.1 a).mp q) hk
theorem CR.K {Γ : GTy} {α : Nat → Nat} {Y X : HS} (h : CR Γ α Y X) {a c : Nat} (hk : xK Y a = c) (hc : c ≠ 99) : xK X (α a) = c := by
  rw [(h.2.2.1 a (h.mem (by rw [hk]; exact hc))).1, hk]
/-- from α0 at Y0 on to α at Y: if nothing is made, the same; else the same on what there was -/
def Ext (al : Bool) (α0 : Nat → Nat) (Y0 : HS) (α : Nat → Nat) (Y : HS) : Prop := if al = true then (∀ a, xK Y0 a ≠ 99 → α a = α0 a ∧ xK Y a ≠ 99) else (α = α0 ∧ xK Y = xK Y0)
theorem Ext.rf {al : Bool} {α : Nat → Nat} {Y : HS} : Ext al α Y α Y := by
  cases al
  · exact ⟨rfl, rfl⟩
  · exact fun a h => ⟨rfl, h⟩
theorem Ext.trans {al : Bool} {α0 α1 α2 : Nat → Nat} {Y0 Y1 Y2 : HS} {al1 : Bool} (h1 : Ext al α0 Y0 α1 Y1) (h2 : Ext al1 α1 Y1 α2 Y2) (hl : al1 = true → al = true) : Ext al α0 Y0 α2 Y2 := by
  cases al1
  · obtain ⟨rfl, e⟩ := h2
    cases al
    · exact ⟨h1.1, e.trans h1.2⟩
    · exact fun a h => ⟨(h1 a h).1, by rw [e]; exact (h1 a h).2⟩
  · have := hl rfl
    subst this
    exact fun a h => ⟨((h2 a (h1 a h).2).1).trans (h1 a h).1, (h2 a (h1 a h).2).2⟩
theorem Ext.same {al : Bool} {α0 α : Nat → Nat} {Y0 Y Y1 : HS} (h : Ext al α0 Y0 α Y) (e : xK Y1 = xK Y) : Ext al α0 Y0 α Y1 := by
  cases al
  · exact ⟨h.1, e.trans h.2⟩
  · exact fun a h1 => ⟨(h a h1).1, by rw [e]; exact (h a h1).2⟩
abbrev WTy : Type := (Nat → Nat) → HS → List Frame → Array Value → State → State → Prop
/-- THE JUDGEMENT over ids -/
def G (Γ : GTy) (μ : MTy) (R : Room) (W : WTy) (k : Nat × Nat) (pc : Nat) (L : List (Option Value)) (st : List Value) (Y : HS) : Prop :=
  ∀ (α0 : Nat → Nat) (Y0 : HS) (α : Nat → Nat) (X : HS), CR Γ α Y X → Ext (mA μ) α0 Y0 α Y → J Γ μ R (W α0 Y0) k pc (lm α L) (sm α st) X
def GX (Γ : GTy) (μ : MTy) (R : Room) (W : WTy) (E : String) (k : Nat × Nat) (pc : Nat) (L : List (Option Value)) (Y : HS) : Prop :=
  ∀ (α0 : Nat → Nat) (Y0 : HS) (α : Nat → Nat) (X : HS), CR Γ α Y X → Ext (mA μ) α0 Y0 α Y → JX Γ μ R (W α0 Y0) E k pc (lm α L) X
def QVc (Γ : GTy) (al : Bool) (α0 : Nat → Nat) (Y0 : HS) (QV : Option Value → HS → Prop) : Option Value → HS → Prop := fun v X' => ∃ (α : Nat → Nat) (Y : HS) (u : Option Value), v = u.map (cv α) ∧ QV u Y ∧ CR Γ α Y X' ∧ Ext al α0 Y0 α Y
def QXc (Γ : GTy) (al : Bool) (α0 : Nat → Nat) (Y0 : HS) (QX : String → HS → Prop) : String → HS → Prop := fun E X' => ∃ (α : Nat → Nat) (Y : HS), QX E Y ∧ CR Γ α Y X' ∧ Ext al α0 Y0 α Y
/-- contracts over ids -/
def Tt (Γ : GTy) (ν : MTy) (as : List Value) (Y : HS) (QV : Option Value → HS → Prop) (QX : String → HS → Prop) : Prop := ∀ (α : Nat → Nat) (X : HS), CR Γ α Y X → Ct Γ ν (sm α as) X (QVc Γ (mA ν) α Y QV) (QXc Γ (mA ν) α Y QX)
def Tn (Γ : GTy) (ν : MTy) (as : List Value) (Y : HS) (QV : Option Value → HS → Prop) : Prop := ∀ (α : Nat → Nat) (X : HS), CR Γ α Y X → Cn Γ ν (sm α as) X (QVc Γ (mA ν) α Y QV)
def Tw (Γ : GTy) (ν : MTy) (as : List Value) (Y : HS) (QV : Option Value → HS → Prop) (QX : String → HS → Prop) : Prop := ∀ (α : Nat → Nat) (X : HS), CR Γ α Y X → Cw Γ ν (sm α as) X (QVc Γ (mA ν) α Y QV) (QXc Γ (mA ν) α Y QX)
def Vt (Γ : GTy) (μ : MTy) (QV : Option Value → HS → Prop) (QX : String → HS → Prop) : WTy := fun α0 Y0 => Zx Γ μ (QVc Γ (mA μ) α0 Y0 QV) (QXc Γ (mA μ) α0 Y0 QX)
def Vn (Γ : GTy) (μ : MTy) (QV : Option Value → HS → Prop) : WTy := fun α0 Y0 => Zn Γ μ (QVc Γ (mA μ) α0 Y0 QV)
section GW
variable {Γ : GTy} {μ : MTy} {R : Room} {W : WTy} {k : Nat × Nat} {pc : Nat} {L : List (Option Value)} {st : List Value} {Y : HS}
variable {QV : Option Value → HS → Prop} {QX : String → HS → Prop}
theorem Tt_of {as : List Value} (hh : mH μ = []) (hp : plainName (mN μ).cls = true) (hn : as.length ≤ mL μ) (hc : ∀ v ∈ as, v.category = 1) (h : G Γ μ (rm μ) (Vt Γ μ QV QX) (0, 0) 0 (L0 as (mL μ)) [] Y) : Tt Γ μ as Y QV QX := by
  intro α X hC
  refine Ct_of hh hp (by simpa [sm] using hn) (fun v hv => ?_) ?_
  · obtain ⟨u, hu, rfl⟩ := List.mem_map.mp hv
    rw [cv_cat]; exact hc u hu
  · have e : L0 (sm α as) (mL μ) = lm α (L0 as (mL μ)) := by simp [L0, lm, sm, List.map_map, Function.comp_def]
    rw [e]
    exact h α Y α X hC Ext.rf
theorem Tn_of {as : List Value} (hh : mH μ = []) (hp : plainName (mN μ).cls = true) (hn : as.length ≤ mL μ) (hc : ∀ v ∈ as, v.category = 1) (h : G Γ μ (rm μ) (Vn Γ μ QV) (0, 0) 0 (L0 as (mL μ)) [] Y) : Tn Γ μ as Y QV := by
  intro α X hC
  refine Cn_of hh hp (by simpa [sm] using hn) (fun v hv => ?_) ?_
  · obtain ⟨u, hu, rfl⟩ := List.mem_map.mp hv
    rw [cv_cat]; exact hc u hu
  · have e : L0 (sm α as) (mL μ) = lm α (L0 as (mL μ)) := by simp [L0, lm, sm, List.map_map, Function.comp_def]
    rw [e]
    exact h α Y α X hC Ext.rf
theorem Tw_of {as : List Value} (hp : plainName (mN μ).cls = true) (hn : as.length ≤ mL μ) (hc : ∀ v ∈ as, v.category = 1) (h : G Γ μ (rm μ) (Vt Γ μ QV QX) (0, 0) 0 (L0 as (mL μ)) [] Y) : Tw Γ μ as Y QV QX := by
  intro α X hC
  refine Cw_of hp (by simpa [sm] using hn) (fun v hv => ?_) ?_
  · obtain ⟨u, hu, rfl⟩ := List.mem_map.mp hv
    rw [cv_cat]; exact hc u hu
  · have e : L0 (sm α as) (mL μ) = lm α (L0 as (mL μ)) := by simp [L0, lm, sm, List.map_map, Function.comp_def]
    rw [e]
    exact h α Y α X hC Ext.rf
theorem G_weak {L' : List (Option Value)} (h : ∀ (i : Nat) (v : Value), L'[i]? = some (some v) → L[i]? = some (some v)) (kk : G Γ μ R W k pc L' st Y) : G Γ μ R W k pc L st Y := by
  intro α0 Y0 α X C E p e s m args below meth c H locs ls Cx S P Lr
  refine kk α0 Y0 α X C E p e s m args below meth c H locs ls Cx S P ⟨Lr.1, Lr.2.1, fun i v hi => ?_⟩
  simp only [lm, List.getElem?_map] at hi
  cases hL : L'[i]? with
  | none => rw [hL] at hi; simp at hi
  | some x =>
    cases x with
    | none => rw [hL] at hi; simp at hi
    | some u =>
      rw [hL] at hi
      simp at hi
      subst hi
      exact Lr.2.2 i _ (lm_at (h i u hL))
theorem G_iconst {n : Int} {v : Int32} (hd : decode (mC μ) pc = .ok (.iconst n, 1)) (hv : Int32.ofInt n = v) (kk : G Γ μ R W k (pc + 1) L (.int v :: st) Y) : G Γ μ R W k pc L st Y :=
  fun α0 Y0 α X C E => J_iconst hd hv (kk α0 Y0 α X C E)
theorem G_bipush {n : Int} {v : Int32} (hd : decode (mC μ) pc = .ok (.bipush n, 2)) (hv : (Int8.ofInt n).toInt32 = v) (kk : G Γ μ R W k (pc + 2) L (.int v :: st) Y) : G Γ μ R W k pc L st Y :=
  fun α0 Y0 α X C E => J_bipush hd hv (kk α0 Y0 α X C E)
theorem G_sipush {n : Int} {v : Int32} (hd : decode (mC μ) pc = .ok (.sipush n, 3)) (hv : (Int16.ofInt n).toInt32 = v) (kk : G Γ μ R W k (pc + 3) L (.int v :: st) Y) : G Γ μ R W k pc L st Y :=
  fun α0 Y0 α X C E => J_sipush hd hv (kk α0 Y0 α X C E)
theorem G_lconst {n : Fin 2} {v : Int64} (hd : decode (mC μ) pc = .ok (.lconst n, 1)) (hv : Int64.ofNat (n : Nat) = v) (kk : G Γ μ R W k (pc + 1) L (.long v :: st) Y) : G Γ μ R W k pc L st Y :=
  fun α0 Y0 α X C E => J_lconst hd hv (kk α0 Y0 α X C E)
theorem G_null (hd : decode (mC μ) pc = .ok (.aconst_null, 1)) (kk : G Γ μ R W k (pc + 1) L (.null :: st) Y) : G Γ μ R W k pc L st Y :=
  fun α0 Y0 α X C E => J_null hd (kk α0 Y0 α X C E)
theorem G_iload_n {n : Fin 4} {x : Int32} (hd : decode (mC μ) pc = .ok (.iload_n n, 1)) (hl : L[(n : Nat)]? = some (some (.int x))) (kk : G Γ μ R W k (pc + 1) L (.int x :: st) Y) : G Γ μ R W k pc L st Y :=
  fun α0 Y0 α X C E => J_iload_n hd (lm_at hl) (kk α0 Y0 α X C E)
theorem G_iload {i : Nat} {x : Int32} (hd : decode (mC μ) pc = .ok (.iload i, 2)) (hl : L[i]? = some (some (.int x))) (kk : G Γ μ R W k (pc + 2) L (.int x :: st) Y) : G Γ μ R W k pc L st Y :=
  fun α0 Y0 α X C E => J_iload hd (lm_at hl) (kk α0 Y0 α X C E)
theorem G_aload_n {n : Fin 4} {x : Nat} (hd : decode (mC μ) pc = .ok (.aload_n n, 1)) (hl : L[(n : Nat)]? = some (some (.ref x))) (kk : G Γ μ R W k (pc + 1) L (.ref x :: st) Y) : G Γ μ R W k pc L st Y :=
  fun α0 Y0 α X C E => J_aload_n hd (lm_at hl) (kk α0 Y0 α X C E)
theorem G_aload {i : Nat} {x : Nat} (hd : decode (mC μ) pc = .ok (.aload i, 2)) (hl : L[i]? = some (some (.ref x))) (kk : G Γ μ R W k (pc + 2) L (.ref x :: st) Y) : G Γ μ R W k pc L st Y :=
  fun α0 Y0 α X C E => J_aload hd (lm_at hl) (kk α0 Y0 α X C E)
theorem G_aload_nN {n : Fin 4} (hd : decode (mC μ) pc = .ok (.aload_n n, 1)) (hl : L[(n : Nat)]? = some (some (.null))) (kk : G Γ μ R W k (pc + 1) L (.null :: st) Y) : G Γ μ R W k pc L st Y :=
  fun α0 Y0 α X C E => J_aload_nN hd (lm_at hl) (kk α0 Y0 α X C E)
theorem G_aloadN {i : Nat} (hd : decode (mC μ) pc = .ok (.aload i, 2)) (hl : L[i]? = some (some (.null))) (kk : G Γ μ R W k (pc + 2) L (.null :: st) Y) : G Γ μ R W k pc L st Y :=
  fun α0 Y0 α X C E => J_aloadN hd (lm_at hl) (kk α0 Y0 α X C E)
theorem G_istore_n {n : Fin 4} {x : Int32} (hd : decode (mC μ) pc = .ok (.istore_n n, 1)) (hn : (n : Nat) < mL μ) (kk : G Γ μ R W k (pc + 1) (L.set (n : Nat) (some (.int x))) st Y) : G Γ μ R W k pc L (.int x :: st) Y :=
  fun α0 Y0 α X C E => J_istore_n hd hn (by have h := kk α0 Y0 α X C E; rw [← lm_set] at h; exact h)
theorem G_istore {i : Nat} {x : Int32} (hd : decode (mC μ) pc = .ok (.istore i, 2)) (hn : i < mL μ) (kk : G Γ μ R W k (pc + 2) (L.set i (some (.int x))) st Y) : G Γ μ R W k pc L (.int x :: st) Y :=
  fun α0 Y0 α X C E => J_istore hd hn (by have h := kk α0 Y0 α X C E; rw [← lm_set] at h; exact h)
theorem G_astore_n {n : Fin 4} {x : Nat} (hd : decode (mC μ) pc = .ok (.astore_n n, 1)) (hn : (n : Nat) < mL μ) (kk : G Γ μ R W k (pc + 1) (L.set (n : Nat) (some (.ref x))) st Y) : G Γ μ R W k pc L (.ref x :: st) Y :=
  fun α0 Y0 α X C E => J_astore_n hd hn (by have h := kk α0 Y0 α X C E; rw [← lm_set] at h; exact h)
theorem G_astore {i : Nat} {x : Nat} (hd : decode (mC μ) pc = .ok (.astore i, 2)) (hn : i < mL μ) (kk : G Γ μ R W k (pc + 2) (L.set i (some (.ref x))) st Y) : G Γ μ R W k pc L (.ref x :: st) Y :=
  fun α0 Y0 α X C E => J_astore hd hn (by have h := kk α0 Y0 α X C E; rw [← lm_set] at h; exact h)
theorem G_astore_nN {n : Fin 4} (hd : decode (mC μ) pc = .ok (.astore_n n, 1)) (hn : (n : Nat) < mL μ) (kk : G Γ μ R W k (pc + 1) (L.set (n : Nat) (some (.null))) st Y) : G Γ μ R W k pc L (.null :: st) Y :=
  fun α0 Y0 α X C E => J_astore_nN hd hn (by have h := kk α0 Y0 α X C E; rw [← lm_set] at h; exact h)
theorem G_astoreN {i : Nat} (hd : decode (mC μ) pc = .ok (.astore i, 2)) (hn : i < mL μ) (kk : G Γ μ R W k (pc + 2) (L.set i (some (.null))) st Y) : G Γ μ R W k pc L (.null :: st) Y :=
  fun α0 Y0 α X C E => J_astoreN hd hn (by have h := kk α0 Y0 α X C E; rw [← lm_set] at h; exact h)
theorem G_iinc {i : Nat} {n : Int} {x v : Int32} (hd : decode (mC μ) pc = .ok (.iinc i n, 3)) (hl : L[i]? = some (some (.int x))) (hv : x + Int32.ofInt n = v) (hn : i < mL μ) (kk : G Γ μ R W k (pc + 3) (L.set i (some (.int v))) st Y) : G Γ μ R W k pc L st Y :=
  fun α0 Y0 α X C E => J_iinc hd (lm_at hl) hv hn (by have h := kk α0 Y0 α X C E; rw [← lm_set] at h; exact h)
theorem G_iadd {x y : Int32} (hd : decode (mC μ) pc = .ok (.iadd, 1)) (kk : G Γ μ R W k (pc + 1) L (.int (x + y) :: st) Y) : G Γ μ R W k pc L (.int y :: .int x :: st) Y :=
  fun α0 Y0 α X C E => J_iadd hd (kk α0 Y0 α X C E)
theorem G_isub {x y : Int32} (hd : decode (mC μ) pc = .ok (.isub, 1)) (kk : G Γ μ R W k (pc + 1) L (.int (x - y) :: st) Y) : G Γ μ R W k pc L (.int y :: .int x :: st) Y :=
  fun α0 Y0 α X C E => J_isub hd (kk α0 Y0 α X C E)
theorem G_imul {x y : Int32} (hd : decode (mC μ) pc = .ok (.imul, 1)) (kk : G Γ μ R W k (pc + 1) L (.int (x * y) :: st) Y) : G Γ μ R W k pc L (.int y :: .int x :: st) Y :=
  fun α0 Y0 α X C E => J_imul hd (kk α0 Y0 α X C E)
theorem G_iand {x y : Int32} (hd : decode (mC μ) pc = .ok (.iand, 1)) (kk : G Γ μ R W k (pc + 1) L (.int (x &&& y) :: st) Y) : G Γ μ R W k pc L (.int y :: .int x :: st) Y :=
  fun α0 Y0 α X C E => J_iand hd (kk α0 Y0 α X C E)
theorem G_ior {x y : Int32} (hd : decode (mC μ) pc = .ok (.ior, 1)) (kk : G Γ μ R W k (pc + 1) L (.int (x ||| y) :: st) Y) : G Γ μ R W k pc L (.int y :: .int x :: st) Y :=
  fun α0 Y0 α X C E => J_ior hd (kk α0 Y0 α X C E)
theorem G_ishl {x y : Int32} (hd : decode (mC μ) pc = .ok (.ishl, 1)) (kk : G Γ μ R W k (pc + 1) L (.int (x <<< (y &&& 31)) :: st) Y) : G Γ μ R W k pc L (.int y :: .int x :: st) Y :=
  fun α0 Y0 α X C E => J_ishl hd (kk α0 Y0 α X C E)
theorem G_ishr {x y : Int32} (hd : decode (mC μ) pc = .ok (.ishr, 1)) (kk : G Γ μ R W k (pc + 1) L (.int (x >>> (y &&& 31)) :: st) Y) : G Γ μ R W k pc L (.int y :: .int x :: st) Y :=
  fun α0 Y0 α X C E => J_ishr hd (kk α0 Y0 α X C E)
theorem G_idiv {x y : Int32} (hd : decode (mC μ) pc = .ok (.idiv, 1)) (hne : ¬ y = 0) (kk : G Γ μ R W k (pc + 1) L (.int (x / y) :: st) Y) : G Γ μ R W k pc L (.int y :: .int x :: st) Y :=
  fun α0 Y0 α X C E => J_idiv hd hne (kk α0 Y0 α X C E)
theorem G_irem {x y : Int32} (hd : decode (mC μ) pc = .ok (.irem, 1)) (hne : ¬ y = 0) (kk : G Γ μ R W k (pc + 1) L (.int (x - x / y * y) :: st) Y) : G Γ μ R W k pc L (.int y :: .int x :: st) Y :=
  fun α0 Y0 α X C E => J_irem hd hne (kk α0 Y0 α X C E)
theorem G_ineg {x : Int32} (hd : decode (mC μ) pc = .ok (.ineg, 1)) (kk : G Γ μ R W k (pc + 1) L (.int (-x) :: st) Y) : G Γ μ R W k pc L (.int x :: st) Y :=
  fun α0 Y0 α X C E => J_ineg hd (kk α0 Y0 α X C E)
theorem G_i2l {x : Int32} (hd : decode (mC μ) pc = .ok (.i2l, 1)) (kk : G Γ μ R W k (pc + 1) L (.long x.toInt64 :: st) Y) : G Γ μ R W k pc L (.int x :: st) Y :=
  fun α0 Y0 α X C E => J_i2l hd (kk α0 Y0 α X C E)
theorem G_lcmp {x y : Int64} (hd : decode (mC μ) pc = .ok (.lcmp, 1)) (kk : G Γ μ R W k (pc + 1) L (.int (lg_cmp x y) :: st) Y) : G Γ μ R W k pc L (.long y :: .long x :: st) Y :=
  fun α0 Y0 α X C E => J_lcmp hd (kk α0 Y0 α X C E)
theorem G_dup {v : Value} (hd : decode (mC μ) pc = .ok (.dup, 1)) (hv : v.category = 1) (kk : G Γ μ R W k (pc + 1) L (v :: v :: st) Y) : G Γ μ R W k pc L (v :: st) Y :=
  fun α0 Y0 α X C E => J_dup hd (by rw [cv_cat]; exact hv) (kk α0 Y0 α X C E)
theorem G_dup2 {v u : Value} (hd : decode (mC μ) pc = .ok (.dup2, 1)) (hv : v.category = 1) (hu : u.category = 1) (kk : G Γ μ R W k (pc + 1) L (v :: u :: v :: u :: st) Y) : G Γ μ R W k pc L (v :: u :: st) Y :=
  fun α0 Y0 α X C E => J_dup2 hd (by rw [cv_cat]; exact hv) (by rw [cv_cat]; exact hu) (kk α0 Y0 α X C E)
theorem G_pop {v : Value} (hd : decode (mC μ) pc = .ok (.pop, 1)) (hv : v.category = 1) (kk : G Γ μ R W k (pc + 1) L st Y) : G Γ μ R W k pc L (v :: st) Y :=
  fun α0 Y0 α X C E => J_pop hd (by rw [cv_cat]; exact hv) (kk α0 Y0 α X C E)
theorem nI_sub {a b : Nat} (h : b ≤ a) : nI a - nI b = nI (a - b) := pk_sub h
theorem G_iaddN {a b : Nat} (hd : decode (mC μ) pc = .ok (.iadd, 1)) (kk : G Γ μ R W k (pc + 1) L (.int (nI (a + b)) :: st) Y) : G Γ μ R W k pc L (.int (nI b) :: .int (nI a) :: st) Y :=
  G_iadd hd (by rw [nI_add a b]; exact kk)
theorem G_imulN {a b : Nat} (hd : decode (mC μ) pc = .ok (.imul, 1)) (kk : G Γ μ R W k (pc + 1) L (.int (nI (a * b)) :: st) Y) : G Γ μ R W k pc L (.int (nI b) :: .int (nI a) :: st) Y :=
  G_imul hd (by rw [pk_mul a b]; exact kk)
theorem G_isubN {a b : Nat} (h : b ≤ a) (hd : decode (mC μ) pc = .ok (.isub, 1)) (kk : G Γ μ R W k (pc + 1) L (.int (nI (a - b)) :: st) Y) : G Γ μ R W k pc L (.int (nI b) :: .int (nI a) :: st) Y :=
  G_isub hd (by rw [pk_sub h]; exact kk)
theorem G_idivN {a b : Nat} (ha : a < 2 ^ 31) (h0 : 0 < b) (hb : b < 2 ^ 31) (hd : decode (mC μ) pc = .ok (.idiv, 1)) (kk : G Γ μ R W k (pc + 1) L (.int (nI (a / b)) :: st) Y) : G Γ μ R W k pc L (.int (nI b) :: .int (nI a) :: st) Y :=
  G_idiv hd (nI_ne0 h0 hb) (by rw [pk_div ha h0 hb]; exact kk)
theorem G_iremN {a b : Nat} (ha : a < 2 ^ 31) (h0 : 0 < b) (hb : b < 2 ^ 31) (hd : decode (mC μ) pc = .ok (.irem, 1)) (kk : G Γ μ R W k (pc + 1) L (.int (nI (a % b)) :: st) Y) : G Γ μ R W k pc L (.int (nI b) :: .int (nI a) :: st) Y :=
  G_irem hd (nI_ne0 h0 hb) (by rw [pk_rem ha h0 hb]; exact kk)
theorem G_iincN {i : Nat} {a : Nat} (hd : decode (mC μ) pc = .ok (.iinc i 1, 3)) (hl : L[i]? = some (some (.int (nI a)))) (hn : i < mL μ) (kk : G Γ μ R W k (pc + 3) (L.set i (some (.int (nI (a + 1))))) st Y) : G Γ μ R W k pc L st Y :=
  G_iinc hd hl (show nI a + Int32.ofInt 1 = nI (a + 1) from nI_1 a) hn kk
theorem G_if_eq {x : Int32} {off : Int} {tgt : Nat} (hd : decode (mC μ) pc = .ok (.ifCond .eq off, 3)) (ht : (pc : Int) + off = (tgt : Int)) (kt : x = 0 → G Γ μ R W k tgt L st Y) (kf : ¬ x = 0 → G Γ μ R W k (pc + 3) L st Y) : G Γ μ R W k pc L (.int x :: st) Y :=
  fun α0 Y0 α X C E => J_if_eq hd ht (fun h => kt h α0 Y0 α X C E) (fun h => kf h α0 Y0 α X C E)
theorem G_icmp_eq {x y : Int32} {off : Int} {tgt : Nat} (hd : decode (mC μ) pc = .ok (.if_icmp .eq off, 3)) (ht : (pc : Int) + off = (tgt : Int)) (kt : x = y → G Γ μ R W k tgt L st Y) (kf : ¬ x = y → G Γ μ R W k (pc + 3) L st Y) : G Γ μ R W k pc L (.int y :: .int x :: st) Y :=
  fun α0 Y0 α X C E => J_icmp_eq hd ht (fun h => kt h α0 Y0 α X C E) (fun h => kf h α0 Y0 α X C E)
theorem G_if_ne {x : Int32} {off : Int} {tgt : Nat} (hd : decode (mC μ) pc = .ok (.ifCond .ne off, 3)) (ht : (pc : Int) + off = (tgt : Int)) (kt : ¬ x = 0 → G Γ μ R W k tgt L st Y) (kf : x = 0 → G Γ μ R W k (pc + 3) L st Y) : G Γ μ R W k pc L (.int x :: st) Y :=
  fun α0 Y0 α X C E => J_if_ne hd ht (fun h => kt h α0 Y0 α X C E) (fun h => kf h α0 Y0 α X C E)
theorem G_icmp_ne {x y : Int32} {off : Int} {tgt : Nat} (hd : decode (mC μ) pc = .ok (.if_icmp .ne off, 3)) (ht : (pc : Int) + off = (tgt : Int)) (kt : ¬ x = y → G Γ μ R W k tgt L st Y) (kf : x = y → G Γ μ R W k (pc + 3) L st Y) : G Γ μ R W k pc L (.int y :: .int x :: st) Y :=
  fun α0 Y0 α X C E => J_icmp_ne hd ht (fun h => kt h α0 Y0 α X C E) (fun h => kf h α0 Y0 α X C E)
theorem G_if_lt {x : Int32} {off : Int} {tgt : Nat} (hd : decode (mC μ) pc = .ok (.ifCond .lt off, 3)) (ht : (pc : Int) + off = (tgt : Int)) (kt : x < 0 → G Γ μ R W k tgt L st Y) (kf : ¬ x < 0 → G Γ μ R W k (pc + 3) L st Y) : G Γ μ R W k pc L (.int x :: st) Y :=
  fun α0 Y0 α X C E => J_if_lt hd ht (fun h => kt h α0 Y0 α X C E) (fun h => kf h α0 Y0 α X C E)
theorem G_icmp_lt {x y : Int32} {off : Int} {tgt : Nat} (hd : decode (mC μ) pc = .ok (.if_icmp .lt off, 3)) (ht : (pc : Int) + off = (tgt : Int)) (kt : x < y → G Γ μ R W k tgt L st Y) (kf : ¬ x < y → G Γ μ R W k (pc + 3) L st Y) : G Γ μ R W k pc L (.int y :: .int x :: st) Y :=
  fun α0 Y0 α X C E => J_icmp_lt hd ht (fun h => kt h α0 Y0 α X C E) (fun h => kf h α0 Y0 α X C E)
theorem G_if_ge {x : Int32} {off : Int} {tgt : Nat} (hd : decode (mC μ) pc = .ok (.ifCond .ge off, 3)) (ht : (pc : Int) + off = (tgt : Int)) (kt : 0 ≤ x → G Γ μ R W k tgt L st Y) (kf : ¬ 0 ≤ x → G Γ μ R W k (pc + 3) L st Y) : G Γ μ R W k pc L (.int x :: st) Y :=
  fun α0 Y0 α X C E => J_if_ge hd ht (fun h => kt h α0 Y0 α X C E) (fun h => kf h α0 Y0 α X C E)
theorem G_icmp_ge {x y : Int32} {off : Int} {tgt : Nat} (hd : decode (mC μ) pc = .ok (.if_icmp .ge off, 3)) (ht : (pc : Int) + off = (tgt : Int)) (kt : y ≤ x → G Γ μ R W k tgt L st Y) (kf : ¬ y ≤ x → G Γ μ R W k (pc + 3) L st Y) : G Γ μ R W k pc L (.int y :: .int x :: st) Y :=
  fun α0 Y0 α X C E => J_icmp_ge hd ht (fun h => kt h α0 Y0 α X C E) (fun h => kf h α0 Y0 α X C E)
theorem G_if_gt {x : Int32} {off : Int} {tgt : Nat} (hd : decode (mC μ) pc = .ok (.ifCond .gt off, 3)) (ht : (pc : Int) + off = (tgt : Int)) (kt : 0 < x → G Γ μ R W k tgt L st Y) (kf : ¬ 0 < x → G Γ μ R W k (pc + 3) L st Y) : G Γ μ R W k pc L (.int x :: st) Y :=
  fun α0 Y0 α X C E => J_if_gt hd ht (fun h => kt h α0 Y0 α X C E) (fun h => kf h α0 Y0 α X C E)
theorem G_icmp_gt {x y : Int32} {off : Int} {tgt : Nat} (hd : decode (mC μ) pc = .ok (.if_icmp .gt off, 3)) (ht : (pc : Int) + off = (tgt : Int)) (kt : y < x → G Γ μ R W k tgt L st Y) (kf : ¬ y < x → G Γ μ R W k (pc + 3) L st Y) : G Γ μ R W k pc L (.int y :: .int x :: st) Y :=
  fun α0 Y0 α X C E => J_icmp_gt hd ht (fun h => kt h α0 Y0 α X C E) (fun h => kf h α0 Y0 α X C E)
theorem G_if_le {x : Int32} {off : Int} {tgt : Nat} (hd : decode (mC μ) pc = .ok (.ifCond .le off, 3)) (ht : (pc : Int) + off = (tgt : Int)) (kt : x ≤ 0 → G Γ μ R W k tgt L st Y) (kf : ¬ x ≤ 0 → G Γ μ R W k (pc + 3) L st Y) : G Γ μ R W k pc L (.int x :: st) Y :=
  fun α0 Y0 α X C E => J_if_le hd ht (fun h => kt h α0 Y0 α X C E) (fun h => kf h α0 Y0 α X C E)
theorem G_icmp_le {x y : Int32} {off : Int} {tgt : Nat} (hd : decode (mC μ) pc = .ok (.if_icmp .le off, 3)) (ht : (pc : Int) + off = (tgt : Int)) (kt : x ≤ y → G Γ μ R W k tgt L st Y) (kf : ¬ x ≤ y → G Γ μ R W k (pc + 3) L st Y) : G Γ μ R W k pc L (.int y :: .int x :: st) Y :=
  fun α0 Y0 α X C E => J_icmp_le hd ht (fun h => kt h α0 Y0 α X C E) (fun h => kf h α0 Y0 α X C E)
theorem G_icmp_eqN {a b : Nat} {off : Int} {tgt : Nat} (ha : a < 2 ^ 31) (hb : b < 2 ^ 31) (hd : decode (mC μ) pc = .ok (.if_icmp .eq off, 3)) (ht : (pc : Int) + off = (tgt : Int)) (kt : a = b → G Γ μ R W k tgt L st Y) (kf : a ≠ b → G Γ μ R W k (pc + 3) L st Y) : G Γ μ R W k pc L (.int (nI b) :: .int (nI a) :: st) Y :=
  G_icmp_eq hd ht (fun h => kt ((nI_eq ha hb).mp h)) (fun h => kf (fun e => h ((nI_eq ha hb).mpr e)))
theorem G_icmp_neN {a b : Nat} {off : Int} {tgt : Nat} (ha : a < 2 ^ 31) (hb : b < 2 ^ 31) (hd : decode (mC μ) pc = .ok (.if_icmp .ne off, 3)) (ht : (pc : Int) + off = (tgt : Int)) (kt : a ≠ b → G Γ μ R W k tgt L st Y) (kf : a = b → G Γ μ R W k (pc + 3) L st Y) : G Γ μ R W k pc L (.int (nI b) :: .int (nI a) :: st) Y :=
  G_icmp_ne hd ht (fun h => kt (fun e => h ((nI_eq ha hb).mpr e))) (fun h => kf ((nI_eq ha hb).mp h))
theorem G_icmp_ltN {a b : Nat} {off : Int} {tgt : Nat} (ha : a < 2 ^ 31) (hb : b < 2 ^ 31) (hd : decode (mC μ) pc = .ok (.if_icmp .lt off, 3)) (ht : (pc : Int) + off = (tgt : Int)) (kt : a < b → G Γ μ R W k tgt L st Y) (kf : b ≤ a → G Γ μ R W k (pc + 3) L st Y) : G Γ μ R W k pc L (.int (nI b) :: .int (nI a) :: st) Y :=
  G_icmp_lt hd ht (fun h => kt ((nI_ltI ha hb).mp h)) (fun h => kf (Nat.not_lt.mp (fun e => h ((nI_ltI ha hb).mpr e))))
theorem G_icmp_geN {a b : Nat} {off : Int} {tgt : Nat} (ha : a < 2 ^ 31) (hb : b < 2 ^ 31) (hd : decode (mC μ) pc = .ok (.if_icmp .ge off, 3)) (ht : (pc : Int) + off = (tgt : Int)) (kt : b ≤ a → G Γ μ R W k tgt L st Y) (kf : a < b → G Γ μ R W k (pc + 3) L st Y) : G Γ μ R W k pc L (.int (nI b) :: .int (nI a) :: st) Y :=
  G_icmp_ge hd ht (fun h => kt ((nI_leI hb ha).mp h)) (fun h => kf (Nat.not_le.mp (fun e => h ((nI_leI hb ha).mpr e))))
theorem G_icmp_gtN {a b : Nat} {off : Int} {tgt : Nat} (ha : a < 2 ^ 31) (hb : b < 2 ^ 31) (hd : decode (mC μ) pc = .ok (.if_icmp .gt off, 3)) (ht : (pc : Int) + off = (tgt : Int)) (kt : b < a → G Γ μ R W k tgt L st Y) (kf : a ≤ b → G Γ μ R W k (pc + 3) L st Y) : G Γ μ R W k pc L (.int (nI b) :: .int (nI a) :: st) Y :=
  G_icmp_gt hd ht (fun h => kt ((nI_ltI hb ha).mp h)) (fun h => kf (Nat.not_lt.mp (fun e => h ((nI_ltI hb ha).mpr e))))
theorem G_icmp_leN {a b : Nat} {off : Int} {tgt : Nat} (ha : a < 2 ^ 31) (hb : b < 2 ^ 31) (hd : decode (mC μ) pc = .ok (.if_icmp .le off, 3)) (ht : (pc : Int) + off = (tgt : Int)) (kt : a ≤ b → G Γ μ R W k tgt L st Y) (kf : b < a → G Γ μ R W k (pc + 3) L st Y) : G Γ μ R W k pc L (.int (nI b) :: .int (nI a) :: st) Y :=
  G_icmp_le hd ht (fun h => kt ((nI_leI ha hb).mp h)) (fun h => kf (Nat.not_le.mp (fun e => h ((nI_leI ha hb).mpr e))))
theorem G_goto {off : Int} {tgt : Nat} (hd : decode (mC μ) pc = .ok (.goto off, 3)) (ht : (pc : Int) + off = (tgt : Int)) (kk : G Γ μ R W k tgt L st Y) : G Γ μ R W k pc L st Y :=
  fun α0 Y0 α X C E => J_goto hd ht (kk α0 Y0 α X C E)
theorem G_ifnull_r {off : Int} {x : Nat} (hd : decode (mC μ) pc = .ok (.ifnull off, 3)) (kk : G Γ μ R W k (pc + 3) L st Y) : G Γ μ R W k pc L (.ref x :: st) Y :=
  fun α0 Y0 α X C E => J_ifnull_r hd (kk α0 Y0 α X C E)
theorem G_ifnull_n {off : Int} {tgt : Nat} (hd : decode (mC μ) pc = .ok (.ifnull off, 3)) (ht : (pc : Int) + off = (tgt : Int)) (kk : G Γ μ R W k tgt L st Y) : G Γ μ R W k pc L (.null :: st) Y :=
  fun α0 Y0 α X C E => J_ifnull_n hd ht (kk α0 Y0 α X C E)
theorem G_ifnonnull_r {off : Int} {tgt : Nat} {x : Nat} (hd : decode (mC μ) pc = .ok (.ifnonnull off, 3)) (ht : (pc : Int) + off = (tgt : Int)) (kk : G Γ μ R W k tgt L st Y) : G Γ μ R W k pc L (.ref x :: st) Y :=
  fun α0 Y0 α X C E => J_ifnonnull_r hd ht (kk α0 Y0 α X C E)
theorem G_ifnonnull_n {off : Int} (hd : decode (mC μ) pc = .ok (.ifnonnull off, 3)) (kk : G Γ μ R W k (pc + 3) L st Y) : G Γ μ R W k pc L (.null :: st) Y :=
  fun α0 Y0 α X C E => J_ifnonnull_n hd (kk α0 Y0 α X C E)
theorem G_tableIn {dflt lo hi : Int} {offs : Array Int} {len : Nat} {x : Int32} {off : Int} {tgt : Nat} (hd : decode (mC μ) pc = .ok (.tableswitch dflt lo hi offs, len)) (h1 : ¬ x.toInt < lo) (h2 : ¬ hi < x.toInt) (ho : offs[(x.toInt - lo).toNat]? = some off) (ht : (pc : Int) + off = (tgt : Int)) (kk : G Γ μ R W k tgt L st Y) : G Γ μ R W k pc L (.int x :: st) Y :=
  fun α0 Y0 α X C E => J_tableIn hd h1 h2 ho ht (kk α0 Y0 α X C E)
theorem G_tableOut {dflt lo hi : Int} {offs : Array Int} {len : Nat} {x : Int32} {tgt : Nat} (hd : decode (mC μ) pc = .ok (.tableswitch dflt lo hi offs, len)) (h : x.toInt < lo ∨ hi < x.toInt) (ht : (pc : Int) + dflt = (tgt : Int)) (kk : G Γ μ R W k tgt L st Y) : G Γ μ R W k pc L (.int x :: st) Y :=
  fun α0 Y0 α X C E => J_tableOut hd h ht (kk α0 Y0 α X C E)
end GW
