-- ===== throws, catches, new cells, statics, a method's beginning =====
section NW
variable {Γ : GTy} {μ : MTy} {R : Room} {Z : List Frame → Array Value → State → State → Prop} {k : Nat × Nat} {pc : Nat} {L : List (Option Value)} {st : List Value} {X : HS}
variable {QV : Option Value → HS → Prop} {QX : String → HS → Prop}
theorem Rp.kept {H H1 : Heap} (P : Rp Γ X H) (h : ∀ q : Nat, q < H.size → H1[q]? = H[q]?) : Rp Γ X H1 := ⟨P.1.kept (fun k q hq => h q.1 (P.1 k q hq).lt), P.2⟩
def xNm : List String := ["java/lang/RuntimeException", "java/lang/Exception"]
/-- the words of a throw of E with a text -/
def TW (own E : String) (ik is ic : Nat) : Prop := Cond.classLink own ik E ∈ BW ∧ Cond.initialized E ∈ BW ∧ (∃ (si : Nat) (tx : String), sTx[si]? = some (own, is, tx)) ∧ (∀ w ∈ vx_atS own ic E xNm, w ∈ BW ∨ w ∈ XW) ∧ (∀ w ∈ Cond.classLink own ik E :: Cond.initialized E :: vx_atS own ic E xNm, vx_ot w = true) ∧ Bundle.fit E = true ∧ (∀ n ∈ xNm, Bundle.fit n = true)
theorem J_throw {E : String} {ik is ic : Nat} (hT : TW (mN μ).cls E ik is ic) (hh : mH μ = []) (d0 : decode (mC μ) pc = .ok (.new ik, 3)) (d3 : decode (mC μ) (pc + 3) = .ok (.dup, 1)) (d4 : decode (mC μ) (pc + 4) = .ok (.ldc is, 2)) (d6 : decode (mC μ) (pc + 6) = .ok (.invokespecial ic, 3)) (d9 : decode (mC μ) (pc + 9) = .ok (.athrow, 1))
    (hR : 5 < R.frames ∧ (st.map fun v => v.category).sum + 82 ≤ R.locals ∧ k.1 + 1 ≤ R.cells ∧ k.2 + 6 ≤ R.slots) (hc : k.1 + 1 ≤ mM μ ∧ k.2 + 6 ≤ mS μ) (hq : QX E X) : J Γ μ R (Zx Γ μ QV QX) k pc L st X := by
  intro p e s m args below meth c H locs ls C S P Lr
  obtain ⟨x1, x2, x3, x4, x5, x6, x7, x8, x9, x10⟩ := id C
  obtain ⟨w1, w2, ⟨si, tx, w3⟩, w4, w5, w6, w7⟩ := hT
  have hx := xw_use (args := args) x10.2.1
  exact vx_throwS x1 x2 x10.2.2.2.2.2.1.2.2.2 (names := xNm) x7 w6 w7 (x9 _ w1) (x9 _ w2) (x10.2.2.2.2.1 si _ w3) (fun w hw => (w4 w hw).elim (x9 w) (hx w)) w5 x10.2.2.2.2.2.1.1 x10.2.2.2.2.2.1.2.1 S (Lr.1.trans x3.symm) d0 d3 d4 d6 d9
    (fun z hz => by rw [x6, hh] at hz; exact absurd hz (by simp [tableOf])) hR.1 hR.2.1 hR.2.2.1 hR.2.2.2 x5 (fun t _ h1 h2 => ⟨X, hq, P.kept h2, Nat.le_trans S.1 h1, fun q g1 g2 => (h2 q (Nat.lt_of_lt_of_le g1 S.1)).trans (S.2.1 q g1 g2)⟩) S.2.2 hc.1 hc.2
theorem J_throwW {E : String} {ik is ic : Nat} (hT : TW (mN μ).cls E ik is ic) (hh : mH μ = []) (d0 : decode (mC μ) pc = .ok (.new ik, 3)) (d3 : decode (mC μ) (pc + 3) = .ok (.dup, 1)) (d4 : decode (mC μ) (pc + 4) = .ok (.ldc_w is, 3)) (d7 : decode (mC μ) (pc + 7) = .ok (.invokespecial ic, 3)) (d10 : decode (mC μ) (pc + 10) = .ok (.athrow, 1))
    (hR : 5 < R.frames ∧ (st.map fun v => v.category).sum + 82 ≤ R.locals ∧ k.1 + 1 ≤ R.cells ∧ k.2 + 6 ≤ R.slots) (hc : k.1 + 1 ≤ mM μ ∧ k.2 + 6 ≤ mS μ) (hq : QX E X) : J Γ μ R (Zx Γ μ QV QX) k pc L st X := by
  intro p e s m args below meth c H locs ls C S P Lr
  obtain ⟨x1, x2, x3, x4, x5, x6, x7, x8, x9, x10⟩ := id C
  obtain ⟨w1, w2, ⟨si, tx, w3⟩, w4, w5, w6, w7⟩ := hT
  have hx := xw_use (args := args) x10.2.1
  exact vx_throwSW x1 x2 x10.2.2.2.2.2.1.2.2.2 (names := xNm) x7 w6 w7 (x9 _ w1) (x9 _ w2) (x10.2.2.2.2.1 si _ w3) (fun w hw => (w4 w hw).elim (x9 w) (hx w)) w5 x10.2.2.2.2.2.1.1 x10.2.2.2.2.2.1.2.1 S (Lr.1.trans x3.symm) d0 d3 d4 d7 d10
    (fun z hz => by rw [x6, hh] at hz; exact absurd hz (by simp [tableOf])) hR.1 hR.2.1 hR.2.2.1 hR.2.2.2 x5 (fun t _ h1 h2 => ⟨X, hq, P.kept h2, Nat.le_trans S.1 h1, fun q g1 g2 => (h2 q (Nat.lt_of_lt_of_le g1 S.1)).trans (S.2.1 q g1 g2)⟩) S.2.2 hc.1 hc.2
/-- an exception caught by a row of the method's table -/
theorem JX_catch {E name : String} (pre : List ExceptionTableEntry) (x : ExceptionTableEntry) (suf : List ExceptionTableEntry) (hsplit : tableOf (mH μ) = pre ++ x :: suf) (hpass : ∀ z ∈ pre, covers z pc = false ∨ (z.catchType ≠ 0 ∧ ∃ nm : String, Cond.classLink (mN μ).cls z.catchType nm ∈ BW ∧ (E, nm) ∈ nCL)) (hx : covers x pc = true) (h0 : x.catchType ≠ 0) (hl : Cond.classLink (mN μ).cls x.catchType name ∈ BW) (hc : Cond.castable E name ∈ XW) {hp : Nat} (hpc : x.handlerPc = hp)
    (kk : ∀ q : Nat, J Γ μ R Z k hp L [.ref q] X) : JX Γ μ R Z E k pc L X := by
  intro p e s m args below meth c H locs ls q x0 rest C S P Lr h1 h2 h3
  obtain ⟨x1, x2, x3, x4, x5, x6, x7, x8, x9, x10⟩ := id C
  subst hpc
  exact vx_catch x7 pre x suf (x6.trans hsplit) (fun z hz => (hpass z hz).imp id (fun ⟨a, nm, b, d⟩ => ⟨a, nm, x9 _ b, x10.2.2.2.2.2.1.2.2.1 _ d⟩)) hx h0 (x9 _ hl) (xw_use x10.2.1 _ hc) h1 h2 h3 (kk q p e s m args below meth c H locs ls C S P Lr)
-- new cells
theorem df_all : ∀ c, c < 9 → ∀ j, j < nf c → defaultValue (ft c j) = if rf c j = true then .null else .int 0 := by decide +kernel
theorem ce_new {cy : Nat → ClassId} {X X' : HS} {q : Nat} {x : va_E} (hx : ce cy X' q = x) (hk : ∀ b, b ≠ q → xK X' b = xK X b) (hg : ∀ c j b, b ≠ q → gv X' c j b = gv X c j b) (hn : ∀ b, b ≠ q → xn X' b = xn X b) (hA : ∀ b, b ≠ q → xA X' b = xA X b) (hJ : ∀ b, b ≠ q → xJ X' b = xJ X b) (hP : ∀ b, b ≠ q → xP X' b = xP X b) : ∀ b, va_up (ce cy X) q x b = ce cy X' b := by
  intro b
  by_cases hb : b = q
  · subst hb
    rw [va_up_self, hx]
  · rw [va_up_ne _ _ hb]
    have e : fl X' (xK X b) b = fl X (xK X b) b := by
      unfold fl
      exact List.map_congr_left (fun j _ => hg _ j b hb)
    unfold ce
    rw [hk b hb, e, hn b hb, hA b hb, hJ b hb, hP b hb]
theorem Rp.new {H1 H : Heap} (P : Rp Γ X H) {X' : HS} {q : Nat} {x : va_E} (hl : xL X' = xL X ++ [q]) (hx : ∀ b, va_up (ce (gc Γ) X) q x b = ce (gc Γ) X' b) (hK : ∀ a, a ≠ q → xK X' a = xK X a) (b1 : va_P (gD Γ) vwCl (va_pl (xL X) (ce (gc Γ) X) ++ [(q, x)]) H1) (b2 : va_D (gA Γ) (va_pl (xL X) (ce (gc Γ) X) ++ [(q, x)])) : q ∉ xL X ∧ xK X q = 99 ∧ Rp Γ X' H1 := by
  have hq : q ∉ xL X := va_pl_fresh2 (X := []) b2
  have e : va_pl (xL X) (ce (gc Γ) X) ++ [(q, x)] = va_pl (xL X') (ce (gc Γ) X') := by
    rw [va_pl_push hq, va_pl_congr hx, hl]
  rw [e] at b1 b2
  refine ⟨hq, P.2.2 q hq, b1, b2, fun a ha => ?_⟩
  rw [hl, List.mem_append, List.mem_singleton] at ha
  have h1 : a ∉ xL X := fun h => ha (Or.inl h)
  have h2 : a ≠ q := fun h => ha (Or.inr h)
  rw [hK a h2]
  exact P.2.2 a h1
theorem J_new {c idx : Nat} (hc : c < 9) (hl : Cond.classLink (mN μ).cls idx (cN c) ∈ BW) (hi : Cond.instantiable (cN c) (nf c) ∈ BW) (h0 : Cond.initialized (cN c) ∈ BW) (hR : k.1 + 1 ≤ R.cells ∧ k.2 + nf c ≤ R.slots) (hd : decode (mC μ) pc = .ok (.new idx, 3))
    (kk : ∀ q : Nat, q ∉ xL X → xK X q = 99 → J Γ μ R Z (k.1 + 1, k.2 + nf c) (pc + 3) L (.ref q :: st) (nO X q c)) : J Γ μ R Z k pc L st X := by
  intro p e s m args below meth c' H locs ls C S P Lr
  obtain ⟨x1, x2, x3, x4, x5, x6, x7, x8, x9, x10⟩ := id C
  obtain ⟨C1, T1, g1, g2, g3, g4⟩ := cl_all c hc
  have e9 : C1 = cN c := by
    have h0 : c = 0 ∨ c = 1 ∨ c = 2 ∨ c = 3 ∨ c = 4 ∨ c = 5 ∨ c = 6 ∨ c = 7 ∨ c = 8 ∨ c = 9 := by omega
    rcases h0 with rfl | rfl | rfl | rfl | rfl | rfl | rfl | rfl | rfl | rfl <;> cases g1 <;> rfl
  subst e9
  refine va_new (ci := c) (fs := (List.range (nf c)).map (fun j => if rf c j = true then Value.null else .int 0)) (C := cN c) (T := T1) (N := nf c) x1 x2 x9 g2 (ft c) g3 x7 (x9 _ hl) (x9 _ hi) (x9 _ h0) x10.1 P.1 P.2.1 S (fun q hq => Nat.le_trans x10.2.2.2.2.2.2 hq) g1 (fun j hj => ?_) hR.1 hR.2 hd (fun q H1 b1 b2 b3 => ?_)
  · rw [df_all c hc j hj]
    simp [vp_V, hj]
  · have hx : ce (gc Γ) (nO X q c) q = .inr (c, (List.range (nf c)).map (fun j => if rf c j = true then Value.null else .int 0)) := by
      rw [ce_obj hc (show xK (nO X q c) q = c from va_up_self _ _ _)]
      refine congrArg (fun l => Sum.inr (c, l)) ?_
      unfold fl
      apply List.map_congr_left
      intro j hj
      simp [gv, nO, nX, xR, xI, va_rf]
    have hg : ∀ c' j b, b ≠ q → gv (nO X q c) c' j b = gv X c' j b := fun c' j b hb => by simp [gv, nO, nX, xR, xI, hb]
    obtain ⟨h1, h2, h3⟩ := P.new (X' := nO X q c) rfl (ce_new hx (fun b hb => va_up_ne _ _ hb) hg (fun b hb => va_up_ne _ _ hb) (fun b hb => va_up_ne _ _ hb) (fun b hb => va_up_ne _ _ hb) (fun b hb => va_up_ne _ _ hb)) (fun b hb => va_up_ne _ _ hb) b1 b2
    exact kk q h1 h2 p e s m args below meth c' H1 locs ls C b3 h3 Lr
theorem tyK_eq {s : State} {cA : ClassId} {ty : FieldType} {t0 : Nat} {cB : ClassId} {tys : List (ClassId × FieldType)} {D : va_G} {cl : List vw_C} (h1 : va_K D cl tys s) (h2 : tys[t0]? = some (cB, ty)) (h3 : va_K D cl (tys ++ [(cA, ty)]) s) : cA = cB := by
  have a1 := (h1.2 t0 _ h2).2
  have a2 := (h3.2 tys.length (cA, ty) (by rw [List.getElem?_append_right (Nat.le_refl _), Nat.sub_self]; rfl)).2
  cases ty with
  | object C =>
    obtain ⟨_, _, _, _, _, e1⟩ := a1
    obtain ⟨_, _, _, _, _, e2⟩ := a2
    exact Option.some.inj (e2.symm.trans e1)
  | _ => exact Option.some.inj ((show s.vm.findClass _ = some cA from a2).symm.trans (show s.vm.findClass _ = some cB from a1))
theorem J_newI {n : Int32} {N : Nat} (hw : Cond.arrayClass .int ∈ BW) (hn : n = nI N) (hN : N < 2 ^ 27) (hR : k.1 + 1 ≤ R.cells ∧ k.2 + N ≤ R.slots) (hd : decode (mC μ) pc = .ok (.newarray .int, 2)) (kk : ∀ q : Nat, q ∉ xL X → xK X q = 99 → J Γ μ R Z (k.1 + 1, k.2 + N) (pc + 2) L (.ref q :: st) (nA X q 10 N (fun _ => 0))) : J Γ μ R Z k pc L (.int n :: st) X := by
  intro p e s m args below meth c' H locs ls C S P Lr
  obtain ⟨x1, x2, x3, x4, x5, x6, x7, x8, x9, x10⟩ := id C
  subst hn
  refine va_newa (atype := .int) (ty := .int) (a0 := (N, .inl (fun _ => 0))) x1 x2 (x9 _ hw) rfl x10.1 P.1 P.2.1 S (fun q hq => Nat.le_trans x10.2.2.2.2.2.2 hq) (fun cA => rfl) (nI_pos (by omega)) (nI_clamp (by omega)) (by show N * 4 ≤ _; omega) hR.1 hR.2 hd (fun q cA H1 b0 b1 b2 b3 => ?_)
  have ec := tyK_eq x10.1 (ty_at (gc Γ)).1 b0
  subst ec
  have hx : ce (gc Γ) (nA X q 10 N (fun _ => 0)) q = .inl (gc Γ 10, (N, .inl (fun _ => 0))) := by
    rw [ce_arr (by decide) (show xK (nA X q 10 N (fun _ => 0)) q = 10 from va_up_self _ _ _), if_pos (by decide)]
    simp [nA, nX, xn, xA, va_up_self]
  obtain ⟨h1, h2, h3⟩ := P.new (X' := nA X q 10 N (fun _ => 0)) rfl (ce_new hx (fun b hb => va_up_ne _ _ hb) (fun c' j b hb => by simp [gv, nA, nJ, nP, nX, xR, xI, hb]) (fun b hb => va_up_ne _ _ hb) (fun b hb => va_up_ne _ _ hb) (fun b hb => va_up_ne _ _ hb) (fun b hb => va_up_ne _ _ hb)) (fun b hb => va_up_ne _ _ hb) b1 b2
  exact kk q h1 h2 p e s m args below meth c' H1 locs ls C b3 h3 Lr
theorem J_newZ {n : Int32} {N : Nat} (hw : Cond.arrayClass .boolean ∈ BW) (hn : n = nI N) (hN : N < 2 ^ 27) (hR : k.1 + 1 ≤ R.cells ∧ k.2 + N ≤ R.slots) (hd : decode (mC μ) pc = .ok (.newarray .boolean, 2)) (kk : ∀ q : Nat, q ∉ xL X → xK X q = 99 → J Γ μ R Z (k.1 + 1, k.2 + N) (pc + 2) L (.ref q :: st) (nA X q 11 N (fun _ => 0))) : J Γ μ R Z k pc L (.int n :: st) X := by
  intro p e s m args below meth c' H locs ls C S P Lr
  obtain ⟨x1, x2, x3, x4, x5, x6, x7, x8, x9, x10⟩ := id C
  subst hn
  refine va_newa (atype := .boolean) (ty := .boolean) (a0 := (N, .inl (fun _ => 0))) x1 x2 (x9 _ hw) rfl x10.1 P.1 P.2.1 S (fun q hq => Nat.le_trans x10.2.2.2.2.2.2 hq) (fun cA => rfl) (nI_pos (by omega)) (nI_clamp (by omega)) (by show N * 1 ≤ _; omega) hR.1 hR.2 hd (fun q cA H1 b0 b1 b2 b3 => ?_)
  have ec := tyK_eq x10.1 (ty_at (gc Γ)).2.1 b0
  subst ec
  have hx : ce (gc Γ) (nA X q 11 N (fun _ => 0)) q = .inl (gc Γ 11, (N, .inl (fun _ => 0))) := by
    rw [ce_arr (by decide) (show xK (nA X q 11 N (fun _ => 0)) q = 11 from va_up_self _ _ _), if_pos (by decide)]
    simp [nA, nX, xn, xA, va_up_self]
  obtain ⟨h1, h2, h3⟩ := P.new (X' := nA X q 11 N (fun _ => 0)) rfl (ce_new hx (fun b hb => va_up_ne _ _ hb) (fun c' j b hb => by simp [gv, nA, nJ, nP, nX, xR, xI, hb]) (fun b hb => va_up_ne _ _ hb) (fun b hb => va_up_ne _ _ hb) (fun b hb => va_up_ne _ _ hb) (fun b hb => va_up_ne _ _ hb)) (fun b hb => va_up_ne _ _ hb) b1 b2
  exact kk q h1 h2 p e s m args below meth c' H1 locs ls C b3 h3 Lr
theorem J_newP {n : Int32} {N c idx : Nat} (hc : 12 ≤ c ∧ c < 18) (hl : Cond.classLink (mN μ).cls idx (eC c) ∈ BW) (hw : Cond.arrayOver (.object (eC c)) ∈ XW) (hn : n = nI N) (hN : N < 2 ^ 27) (hR : k.1 + 1 ≤ R.cells ∧ k.2 + N ≤ R.slots) (hd : decode (mC μ) pc = .ok (.anewarray idx, 3)) (kk : ∀ q : Nat, q ∉ xL X → xK X q = 99 → J Γ μ R Z (k.1 + 1, k.2 + N) (pc + 3) L (.ref q :: st) (nP X q c N)) : J Γ μ R Z k pc L (.int n :: st) X := by
  intro p e s m args below meth c' H locs ls C S P Lr
  obtain ⟨x1, x2, x3, x4, x5, x6, x7, x8, x9, x10⟩ := id C
  subst hn
  refine va_newq (C := eC c) (N' := N) x1 x2 x7 (x9 _ hl) (x10.2.1 _ hw) x10.1 P.1 P.2.1 S (fun q hq => Nat.le_trans x10.2.2.2.2.2.2 hq) (nI_pos (by omega)) (nI_clamp (by omega)) (by omega) hR.1 hR.2 hd (fun q cA H1 b0 b1 b2 b3 => ?_)
  have ec := tyK_eq x10.1 ((ty_at (gc Γ)).2.2 c hc.1 hc.2) b0
  subst ec
  have hx : ce (gc Γ) (nP X q c N) q = .inl (gc Γ c, N, .inr (.inr (.inr (.inr (fun _ => none))))) := by
    rw [ce_arr (by omega) (show xK (nP X q c N) q = c from va_up_self _ _ _), if_neg (by omega), if_neg (by omega)]
    simp [nP, nX, xn, xP, va_up_self]
  obtain ⟨h1, h2, h3⟩ := P.new (X' := nP X q c N) rfl (ce_new hx (fun b hb => va_up_ne _ _ hb) (fun c' j b hb => by simp [gv, nA, nJ, nP, nX, xR, xI, hb]) (fun b hb => va_up_ne _ _ hb) (fun b hb => va_up_ne _ _ hb) (fun b hb => va_up_ne _ _ hb) (fun b hb => va_up_ne _ _ hb)) (fun b hb => va_up_ne _ _ hb) b1 b2
  exact kk q h1 h2 p e s m args below meth c' H1 locs ls C b3 h3 Lr
-- statics
theorem J_getst {i idx : Nat} (hi : i < 4) (hl : Cond.fieldLink (mN μ).cls idx "BaulkHall" (nSt i) "[I" ∈ BW ∨ ∃ host, Cond.fieldLinkNest (mN μ).cls idx "BaulkHall" (nSt i) "[I" host ∈ XW) (hd : decode (mC μ) pc = .ok (.getstatic idx, 3)) (kk : J Γ μ R Z k (pc + 3) L (.ref (gt Γ i).1 :: st) X) : J Γ μ R Z k pc L st X := by
  intro p e s m args below meth c' H locs ls C S P Lr
  obtain ⟨x1, x2, x3, x4, x5, x6, x7, x8, x9, x10⟩ := id C
  have K := kk p e s m args below meth c' H locs ls C S P Lr
  rcases hl with hl | ⟨host, hl⟩
  · exact va_gets x1 x2 (x10.2.2.2.1 i hi).1 S x7 (x9 _ hl) (fun _ h => h) hd K
  · exact va_getsN x1 x2 (x10.2.2.2.1 i hi).1 S x7 (xw_use x10.2.1 _ hl) (fun _ h => h) hd K
theorem J_sald {i j : Nat} {x : Int32} (hi : i < 5) (hx : x = nI j) (hj : j < (gt Γ i).2.1) (h2 : j < 2 ^ 31) (hd : decode (mC μ) pc = .ok (.iaload, 1)) (kk : J Γ μ R Z k (pc + 1) L (.int ((gt Γ i).2.2 j) :: st) X) : J Γ μ R Z k pc L (.int x :: .ref (gt Γ i).1 :: st) X := by
  intro p e s m args below meth c' H locs ls C S P Lr
  obtain ⟨x1, x2, x3, x4, x5, x6, x7, x8, x9, x10⟩ := id C
  have K := kk p e s m args below meth c' H locs ls C S P Lr
  subst hx
  have h := x10.2.2.1 i hi
  exact va_sld x1 x2 h.1 (Nat.lt_of_lt_of_le h.2 x10.2.2.2.2.2.2) (Nat.not_le.mpr h.2) S (ix_in hj h2) hd (by rw [nI_clamp h2]; exact K)
theorem J_slen {i : Nat} {v : Int32} (hi : i < 5) (hv : nI (gt Γ i).2.1 = v) (hd : decode (mC μ) pc = .ok (.arraylength, 1)) (kk : J Γ μ R Z k (pc + 1) L (.int v :: st) X) : J Γ μ R Z k pc L (.ref (gt Γ i).1 :: st) X := by
  intro p e s m args below meth c' H locs ls C S P Lr
  obtain ⟨x1, x2, x3, x4, x5, x6, x7, x8, x9, x10⟩ := id C
  subst hv
  have h := x10.2.2.1 i hi
  exact va_slen x1 x2 h.1 (Nat.lt_of_lt_of_le h.2 x10.2.2.2.2.2.2) (Nat.not_le.mpr h.2) S hd (kk p e s m args below meth c' H locs ls C S P Lr)
/-- a static table of ints, cloned -/
theorem J_clone {i idx : Nat} (hi : i < 4) (hl : Cond.methodLink (mN μ).cls idx ⟨"[I", "clone", "()Ljava/lang/Object;"⟩ ∈ BW) (hw : Cond.sameMethod "[I" "java/lang/Object" "clone" "()Ljava/lang/Object;" ∈ BW ∧ Cond.native ⟨"java/lang/Object", "clone", "()Ljava/lang/Object;"⟩ ∈ BW ∧ Cond.instanceMethod ⟨"java/lang/Object", "clone", "()Ljava/lang/Object;"⟩ ∈ BW ∧ Cond.selects "[I" ⟨"[I", "clone", "()Ljava/lang/Object;"⟩ ⟨"java/lang/Object", "clone", "()Ljava/lang/Object;"⟩ ∈ BW ∧ Cond.castable "[I" "java/lang/Cloneable" ∈ XW) (hf : 1 ≤ R.frames ∧ (st.map fun v => v.category).sum + 14 ≤ R.locals) (hR : k.1 + 1 ≤ R.cells ∧ k.2 + (gt Γ i).2.1 ≤ R.slots) (hd : decode (mC μ) pc = .ok (.invokevirtual idx, 3))
    (kk : ∀ q : Nat, q ∉ xL X → xK X q = 99 → J Γ μ R Z (k.1 + 1, k.2 + (gt Γ i).2.1) (pc + 3) L (.ref q :: st) (nA X q 10 (gt Γ i).2.1 (gt Γ i).2.2)) : J Γ μ R Z k pc L (.ref (gt Γ i).1 :: st) X := by
  intro p e s m args below meth c' H locs ls C S P Lr T hT Y
  obtain ⟨x1, x2, x3, x4, x5, x6, x7, x8, x9, x10⟩ := id C
  obtain ⟨⟨scr, g1, g2, g3, g4, g5⟩, g6⟩ := x10.2.2.1 i (by omega)
  obtain ⟨-, scr', g7, g8⟩ := x10.2.2.2.1 i hi
  cases g1.symm.trans g7
  have hKi := x10.1.2 0 _ (ty_at (gc Γ)).1
  have hnm : s.vm.findClass "[I" = some (gc Γ 10) := hKi.2
  have ecl : scr.cls = gc Γ 10 := Option.some.inj (g8.symm.trans hnm)
  have hH : H[(gt Γ i).1]? = some scr := by rw [S.2.1 _ (Nat.lt_of_lt_of_le g6 x10.2.2.2.2.2.2) (Nat.not_le.mpr g6)]; exact g1
  have hcellT : T.heap[(gt Γ i).1]? = some scr := by rw [hT]; exact hH
  obtain ⟨c0, t0', f1, f2, f3⟩ := Cond.castable_spec (xw_use (args := args) x10.2.1 _ hw.2.2.2.2)
  cases hnm.symm.trans f1
  obtain ⟨-, kA, hkA, comp, hkind⟩ := State.isArrayOf_alike Y.warmed.alike (hKi.1 0 (fun _ => .null))
  obtain ⟨-, kS, hkS, compS, hkindS⟩ := hKi.1 0 (fun _ => .null)
  have hsl : scr.slots = (arrV (gc Γ 10) (gt Γ i).2.1 (fun j => .int ((gt Γ i).2.2 j))).slots := by
    apply Array.ext_getElem?
    intro j
    by_cases hj : j < (gt Γ i).2.1
    · rw [g5 j hj, arrV_read _ _ hj]
    · rw [Array.getElem?_eq_none (by omega), Array.getElem?_eq_none (by rw [arrV_size]; omega)]
  obtain ⟨vm', Y', st'⟩ := Y.cloneArray x1 x7 (x9 _ hl) (x9 _ hw.1) (x9 _ hw.2.1) (x9 _ hw.2.2.1) (x9 _ hw.2.2.2.1) (a := (gt Γ i).1) (cell := scr) hcellT (fun k h => by have := g2.1 k; exact this h) g3 (by rw [ecl]; exact hnm) f2 (by rw [ecl]; exact f3)
    (fun j v hv => by
      rw [ecl]
      have hk' : T.vm.classes[gc Γ 10]? = some kA := hkA
      have hjv : fits .int v = true := by
        by_cases hj : j < (gt Γ i).2.1
        · rw [g5 j hj] at hv; cases hv; rfl
        · rw [Array.getElem?_eq_none (by omega)] at hv; cases hv
      simpa [State.fitsSlot, State.slotType?, hk', hkind] using hjv)
    (g := F0 m pc ls (.ref (gt Γ i).1 :: st)) rfl (Lr.1.trans x3.symm) rfl (by rw [x2]; exact hd) hf.1 (by show 2 * 0 + _ + 14 ≤ _; omega) hR.1 (by rw [g4]; exact hR.2) (hloader := by rw [ecl]; exact Vm.clonesLoader_of_array hkS hkindS)
  have hcellE : ({ cls := scr.cls, slots := scr.slots } : Cell) = arrV (gc Γ 10) (gt Γ i).2.1 (fun j => .int ((gt Γ i).2.2 j)) := by
    rw [ecl, hsl]; rfl
  rw [hcellE, g4] at Y'
  generalize hH1 : H.push (arrV (gc Γ 10) (gt Γ i).2.1 (fun j => .int ((gt Γ i).2.2 j))) = H1
  have z1 : H1.size = H.size + 1 := by rw [← hH1, Array.size_push]
  have e1 : H1[H.size]? = some (arrV (gc Γ 10) (gt Γ i).2.1 (fun j => .int ((gt Γ i).2.2 j))) := by rw [← hH1, Array.getElem?_push_size]
  have o1 : ∀ q : Nat, q < H.size → H1[q]? = H[q]? := fun q hq => by rw [← hH1, Array.getElem?_push, if_neg (Nat.ne_of_lt hq)]
  have S1 : va_S (gA Γ) s.heap H1 locs := ⟨Nat.le_trans S.1 (by omega), fun y h1 h2 => (o1 y (Nat.lt_of_lt_of_le h1 S.1)).trans (S.2.1 y h1 h2), S.2.2⟩
  have b1 : va_P (gD Γ) vwCl (va_pl (xL X) (ce (gc Γ) X) ++ [(H.size, .inl (gc Γ 10, (gt Γ i).2.1, .inl (gt Γ i).2.2))]) H1 := (P.1.kept (fun k q hq => o1 q.1 (P.1 k q hq).lt)).app (fun k y hy => by
    have hz : k < 1 := (List.getElem?_eq_some_iff.mp hy).1
    rw [show k = 0 by omega] at hy
    cases hy
    exact e1)
  have b2 : va_D (gA Γ) (va_pl (xL X) (ce (gc Γ) X) ++ [(H.size, .inl (gc Γ 10, (gt Γ i).2.1, .inl (gt Γ i).2.2))]) := P.2.1.push P.1 rfl (Nat.le_trans x10.2.2.2.2.2.2 S.1)
  have hx : ce (gc Γ) (nA X H.size 10 (gt Γ i).2.1 (gt Γ i).2.2) H.size = .inl (gc Γ 10, (gt Γ i).2.1, .inl (gt Γ i).2.2) := by
    rw [ce_arr (by decide) (show xK (nA X H.size 10 (gt Γ i).2.1 (gt Γ i).2.2) H.size = 10 from va_up_self _ _ _), if_pos (by decide)]
    simp [nA, nX, xn, xA, va_up_self]
  obtain ⟨h1, h2, h3⟩ := P.new (X' := nA X H.size 10 (gt Γ i).2.1 (gt Γ i).2.2) rfl (ce_new hx (fun b hb => va_up_ne _ _ hb) (fun c' j b hb => by simp [gv, nA, nJ, nP, nX, xR, xI, hb]) (fun b hb => va_up_ne _ _ hb) (fun b hb => va_up_ne _ _ hb) (fun b hb => va_up_ne _ _ hb) (fun b hb => va_up_ne _ _ hb)) (fun b hb => va_up_ne _ _ hb) b1 b2
  obtain ⟨t, q1, q2⟩ := kk H.size h1 h2 p e s m args below meth c' H1 locs ls C S1 h3 Lr ((T.setVm vm').pushCell (arrV (gc Γ 10) (gt Γ i).2.1 (fun j => .int ((gt Γ i).2.2 j)))) (by rw [← hH1, ← hT]; rfl) Y'
  refine ⟨t, st' t ?_, q2⟩
  rw [hcellE, hT]
  exact q1
theorem J_castI {idx a : Nat} (hk : xK X a = 10) (hl : Cond.classLink (mN μ).cls idx "[I" ∈ BW) (hd : decode (mC μ) pc = .ok (.checkcast idx, 3)) (kk : J Γ μ R Z k (pc + 3) L (.ref a :: st) X) : J Γ μ R Z k pc L (.ref a :: st) X := by
  intro p e s m args below meth c' H locs ls C S P Lr
  obtain ⟨x1, x2, x3, x4, x5, x6, x7, x8, x9, x10⟩ := id C
  obtain ⟨q, -, hq⟩ := P.arr (by decide) hk (by decide)
  have hnm : s.vm.findClass "[I" = some (gc Γ 10) := (x10.1.2 0 _ (ty_at (gc Γ)).1).2
  exact va_castA x1 x2 x7 (x9 _ hl) P.1 q hq hnm hd (kk p e s m args below meth c' H locs ls C S P Lr)
-- ===== a method's beginning =====
def L0 (as : List Value) (n : Nat) : List (Option Value) := as.map some ++ List.replicate (n - as.length) none
theorem args_at : ∀ (as : List Value), (∀ v ∈ as, v.category = 1) → ∀ (b i : Nat) (v : Value), as[i]? = some v → (b + i, v) ∈ lv_args b as
  | [], _, b, i, v, h => by simp at h
  | a :: as, hc, b, i, v, h => by
    have ha : a.category = 1 := hc a List.mem_cons_self
    cases i with
    | zero =>
      rw [List.getElem?_cons_zero] at h
      cases h
      exact List.mem_cons_self
    | succ i =>
      rw [List.getElem?_cons_succ] at h
      have := args_at as (fun v hv => hc v (List.mem_cons_of_mem _ hv)) (b + 1) i v h
      refine List.mem_cons_of_mem _ ?_
      rw [if_neg (by rw [ha]; decide), show b + (i + 1) = b + 1 + i by omega]
      exact this
theorem sl_len (as : List Value) (hc : ∀ v ∈ as, v.category = 1) : (lg_sl as).length = as.length := by
  induction as with
  | nil => rfl
  | cons a as ih =>
    have ha : a.category = 1 := hc a List.mem_cons_self
    show ((if a.category = 2 then [Slot.val a, .second] else [.val a]) ++ lg_sl as).length = _
    rw [if_neg (by rw [ha]; decide), List.length_append, ih (fun v hv => hc v (List.mem_cons_of_mem _ hv))]
    simp; omega
theorem L0_LR (as : List Value) (n : Nat) (hn : as.length ≤ n) (hc : ∀ v ∈ as, v.category = 1) : LR ((lg_sl as ++ List.replicate (n - (lg_sl as).length) Slot.unset).toArray) n (L0 as n) := by
  have h := lv_entry as (n := n) (by rw [sl_len as hc]; exact hn)
  refine ⟨h.1, h.2.1, fun i v hi => ?_⟩
  have hl : i < as.length := by
    by_cases q : i < as.length
    · exact q
    · rw [L0, List.getElem?_append_right (by simp; omega)] at hi
      rw [List.getElem?_replicate] at hi
      split at hi <;> simp at hi
  have hv : as[i]? = some v := by
    rw [L0, List.getElem?_append_left (by simpa using hl), List.getElem?_map] at hi
    cases ha : as[i]? with
    | none => rw [ha] at hi; simp at hi
    | some w => rw [ha] at hi; simpa using hi
  refine ⟨h.2.2 (i, v) ?_, hc v (List.mem_of_getElem? hv)⟩
  have := args_at as hc 0 i v hv
  rwa [Nat.zero_add] at this
theorem Ct_of {as : List Value} (hh : mH μ = []) (hp : plainName (mN μ).cls = true) (hn : as.length ≤ mL μ) (hc : ∀ v ∈ as, v.category = 1) (h : J Γ μ (rm μ) (Zx Γ μ QV QX) (0, 0) 0 (L0 as (mL μ)) [] X) : Ct Γ μ as X QV QX := by
  refine vx_ofW (cc := mC μ) (maxL := mL μ) (ret := mR μ) hp rfl ?_
  intro p e s m args below meth c s₁ B hml ht hP
  obtain ⟨rfl, hG, hR⟩ := hP
  have hts : ∀ w ∈ (Cond.code (mN μ) (mC μ) (mL μ) (mR μ) :: BW), w.before as.toArray s = true := atoms_spec B.pre
  rw [lg_entry_eq]
  refine h p e s m as.toArray below meth c s.heap [] _ ⟨B.exec, B.bytes, hml, B.returns, B.notSynchronized, ?_, findClass_of_methodNamed B.named, (name_of_methodNamed B.named B.method).1, fun w hw => hts w (List.mem_cons_of_mem _ hw), hG⟩ va_S.rf hR (L0_LR as _ hn hc)
  rw [hh]
  exact List.eq_nil_iff_forall_not_mem.mpr (fun x hx => ht x hx)
theorem Cn_of {as : List Value} (hh : mH μ = []) (hp : plainName (mN μ).cls = true) (hn : as.length ≤ mL μ) (hc : ∀ v ∈ as, v.category = 1) (h : J Γ μ (rm μ) (Zn Γ μ QV) (0, 0) 0 (L0 as (mL μ)) [] X) : Cn Γ μ as X QV := by
  unfold Cn Met
  refine MetFree.of_bodyS (code := mC μ) (maxLocals := mL μ) (ret := mR μ) hp ?_ ?_
  · intro args s m h hn
    obtain ⟨meth, c, h1, h2, h3, h4, h5, h6, -, -⟩ := Cond.code_spec hn (atoms_spec (ws := .code (mN μ) (mC μ) (mL μ) (mR μ) :: BW) h _ List.mem_cons_self)
    exact ⟨meth, c, h1, h2, h3, h4, h5, h6⟩
  · intro p e s m args below meth c s₁ B hml hP _
    have hh0 : s₁.heap = s.heap := by rw [B.state]; rfl
    have ht : c.exceptionTable.toList = [] := by
      obtain ⟨meth9, c9, h1, h2, -, -, -, -, h7, -⟩ := Cond.code_spec B.named (atoms_spec (ws := .code (mN μ) (mC μ) (mL μ) (mR μ) :: BW) B.pre _ List.mem_cons_self)
      cases Option.some.inj (h1.symm.trans B.method)
      cases Option.some.inj (h2.symm.trans (Stand.of_body B).code)
      rw [Array.isEmpty_iff.mp h7]
    obtain ⟨rfl, hG, hR⟩ := hP
    have hts : ∀ w ∈ (Cond.code (mN μ) (mC μ) (mL μ) (mR μ) :: BW), w.before as.toArray s = true := atoms_spec B.pre
    have K := h p e s m as.toArray below meth c s.heap [] _ ⟨B.exec, B.bytes, hml, B.returns, B.notSynchronized, by rw [hh]; exact ht, findClass_of_methodNamed B.named, (name_of_methodNamed B.named B.method).1, fun w hw => hts w (List.mem_cons_of_mem _ hw), hG⟩ va_S.rf hR (L0_LR as _ hn hc)
    rw [← lg_entry_eq] at K
    obtain ⟨t, a1, o, b1, b2, b3⟩ := K s₁ hh0 (Stand.of_body B)
    exact ⟨t, o, a1, b1, b2, ⟨b3.1, b3.2⟩⟩
theorem Cw_of {as : List Value} (hp : plainName (mN μ).cls = true) (hn : as.length ≤ mL μ) (hc : ∀ v ∈ as, v.category = 1) (h : J Γ μ (rm μ) (Zx Γ μ QV QX) (0, 0) 0 (L0 as (mL μ)) [] X) : Cw Γ μ as X QV QX := by
  refine vx_ofWH (cc := mC μ) (maxL := mL μ) (ret := mR μ) (hh := mH μ) hp rfl ?_
  intro p e s m args below meth c s₁ B hml hP
  obtain ⟨rfl, hG, hR⟩ := hP
  have hts : ∀ w ∈ (Cond.codeWith (mN μ) (mC μ) (mL μ) (mR μ) (mH μ) :: BW), w.before as.toArray s = true := atoms_spec B.pre
  rw [lg_entry_eq]
  exact h p e s m as.toArray below meth c s.heap [] _ ⟨B.exec, B.bytes, hml, B.returns, B.notSynchronized, vx_table (x := mN μ) B (hts _ List.mem_cons_self), findClass_of_methodNamed B.named, (name_of_methodNamed B.named B.method).1, fun w hw => hts w (List.mem_cons_of_mem _ hw), hG⟩ va_S.rf hR (L0_LR as _ hn hc)
end NW
