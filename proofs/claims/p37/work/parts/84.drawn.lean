-- ===== the drawn hall =====
abbrev gL (Γ : GTy) (W : WTy) (kc ks pc : Nat) (L : List (Option Value)) (st : List Value) (Z : HS) : Prop := G Γ M_L_law room_1 W (kc, ks) pc L st Z
theorem aos2 {Z : HS} (hH : SH Z) : ∀ r, r ∈ [sid 4, 800000] → xK Z r ≠ 99 ∨ ∃ i, i < 5 ∧ r = sid i := by
  intro r hr
  simp only [List.mem_cons, List.not_mem_nil, or_false] at hr
  rcases hr with rfl | rfl
  · exact Or.inr ⟨4, by decide, rfl⟩
  · exact Or.inl (by rw [sh_k hH]; decide)
theorem R_Lk {Γ : GTy} {W : WTy} {Y : HS} {kc ks pc : Nat} {L : List (Option Value)} {ν : MTy} {n idx : Nat} {as rest st0 : List Value} {P : HS → FT → Prop} {F' : FT} {bb : Int32} {es : List String} (hM : MOK ν n) (hl : LkV "BaulkHallLaw" idx ν) (hb : xK Y 800000 = 8) (hcc : cN 8 = (mN ν).cls) (hr : rmB room_1 ν (500000, 7000000) rest = true) (hs : Nat.ble (mM ν) 12 = true ∧ Nat.ble (mS ν) 100 = true) (h1 : kc ≤ 500000) (h2 : ks ≤ 7000000) (hn : as.length = n) (hst : st0 = as.reverse ++ .ref 800000 :: rest) (hA : AOS M_L_law ν L rest Y) (hd : decode (mC M_L_law) pc = .ok (.invokevirtual idx, 3)) (hc : Tt Γ ν (.ref 800000 :: as) Y (QVo P Y F' bb) (QXo P Y F' es)) (he : es.length < 1000) (h0 : F' 25 0 = nI 0)
    (kk : ∀ (Y' : HS) (kc' ks' : Nat), kc' ≤ kc + 12 → ks' ≤ ks + 100 → P Y' F' → gL Γ W kc' ks' (pc + 3) L (.int bb :: rest) Y') : gL Γ W kc ks pc L st0 Y :=
  R_L hM hl hb hcc (rmB_le hr h1 h2) hn hst hA hd hc he h0 rfl (fun Y' q => kk Y' _ _ (Nat.add_le_add_left (Nat.le_of_ble_eq_true hs.1) _) (Nat.add_le_add_left (Nat.le_of_ble_eq_true hs.2) _) q)
theorem K_Lk {Γ : GTy} {W : WTy} {Y : HS} {kc ks pc : Nat} {L : List (Option Value)} {v1 v2 v3 v4 v5 : Value} {QV' : Option Value → HS → Prop} (h1 : kc ≤ 500000) (h2 : ks ≤ 7000000) (hA : AOS M_L_law M_L_act L [] Y) (hd : decode (mC M_L_law) pc = .ok (.invokestatic 122, 3)) (hc : Tw Γ M_L_act [v1, v2, v3, v4, v5] Y QV' noX)
    (kk : ∀ (v : Option Value) (Y' : HS) (kc' ks' : Nat), kc' ≤ kc + 12 → ks' ≤ ks + 100 → QV' v Y' → gL Γ W kc' ks' (pc + 3) L (v.toList ++ []) Y') : gL Γ W kc ks pc L [v5, v4, v3, v2, v1] Y :=
  K_LW mok_L_act lk_L_122 (rmB_le (a := 500000) (b := 7000000) rfl h1 h2) rfl rfl hA hd hc rfl (fun v Y' q => kk v Y' _ _ (Nat.le_refl _) (Nat.le_refl _) q)
theorem xc_ge (E : String) : ¬ xc E < -73 := by
  unfold xc
  split
  · decide
  · split <;> decide
theorem shW_25 {F : FT} {f d c : Nat} {z : Int32} : shW F f d c z 25 0 = nI 0 := by
  unfold shW
  split
  · exact (mShot_o (by decide)).trans u2_e
  · exact (u2_s (by decide)).trans ((mShot_o (by decide)).trans u2_e)
/-- what holds of the drawn hall's numbers at step j -/
def LI (j : Nat) (F : FT) : Prop := F 1 0 = nI 6 ∧ F 10 0 = nI 1 ∧ (∃ t, t ≤ 30 * j ∧ F 0 0 = nI t) ∧ (0 < F 108 0 ∨ (j = 0 ∧ F 113 0 = nI 0 ∧ F 114 0 = nI 0 ∧ F 111 0 = nI 0 ∧ lastW (fun k => F 107 k = nI 1) 6 = nI 0))
theorem dr_e {Γ : GTy} {W : WTy} {n : Nat} {Z : HS} {F A : FT} {g : GN} {kc ks j X : Nat} {c : Int32} (h : CI n Z F g A) (e10 : F 10 0 = nI 1) (hj : j < 24) (hk1 : kc ≤ 400000) (hk2 : ks ≤ 6000000) (kk : ∀ kc' ks' : Nat, kc' ≤ kc + 5300 → ks' ≤ ks + 44000 → gL Γ W kc' ks' 46 [some (.ref (sid 4)), some (.ref 800000), some (.int (nI (j + 1))), none, none] [] Z) : gL Γ W kc ks 223 [some (.ref (sid 4)), some (.ref 800000), some (.int (nI j)), some (.int (nI X)), some (.int c)] [] Z := by
  have fin : ∀ kc' ks' : Nat, kc' ≤ kc + 5300 → ks' ≤ ks + 44000 → gL Γ W kc' ks' 240 [some (.ref (sid 4)), some (.ref 800000), some (.int (nI j)), some (.int (nI X)), some (.int c)] [] Z := by
    intro kc' ks' a1 a2
    show G Γ M_L_law room_1 W (kc', ks') 240 [some (.ref (sid 4)), some (.ref 800000), some (.int (nI j)), some (.int (nI X)), some (.int c)] [] Z
    refine G_iincN (pc := 240) dL_law_240 rfl (by decide) ?_
    refine G_goto (pc := 243) (tgt := 46) dL_law_243 (by decide) ?_
    refine G_weak (weak_take (j := 3) (r := 2)) ?_
    exact kk kc' ks' (by omega) (by omega)
  show G Γ M_L_law room_1 W (kc, ks) 223 [some (.ref (sid 4)), some (.ref 800000), some (.int (nI j)), some (.int (nI X)), some (.int c)] [] Z
  refine G_iload_n (pc := 223) dL_law_223 rfl ?_
  refine G_bipush (pc := 224) (v := nI 6) dL_law_224 (by first | rfl | decide) ?_
  refine G_iremN (pc := 226) (by omega) (by omega) (by omega) dL_law_226 ?_
  refine G_if_neN (pc := 227) (tgt := 240) (by omega) dL_law_227 (by decide) (fun _ => ?_) (fun _ => ?_)
  · exact fin kc ks (by omega) (by omega)
  · refine G_aload_n (pc := 230) dL_law_230 rfl ?_
    refine G_iconst (pc := 231) (v := nI 1) dL_law_231 (by first | rfl | decide) ?_
    refine K_LS (pc := 232) (k' := (kc + 5300, ks + 44000)) (as := [.ref 800000, .int (nI 1)]) mok_L_refuses lk_L_132 (rmB_le (a := 500000) (b := 7000000) rfl (show kc ≤ 500000 by omega) (show ks ≤ 7000000 by omega)) rfl rfl (by exact (fun _ => ⟨rfl, aos2 h.1, fun _ hr => nomatch hr⟩)) dL_law_232 (k_refuses h (m := 1) e10 (by decide)) rfl (fun v Y' q => ?_)
    obtain ⟨rfl, rfl⟩ := q
    show G _ _ _ _ _ _ _ (_ :: _) _
    refine G_if_ne (pc := 235) (tgt := 240) dL_law_235 (by decide) (fun _ => ?_) (fun h => absurd h (by decide))
    exact fin (kc + 5300) (ks + 44000) (by omega) (by omega)
theorem dr_d {Γ : GTy} {W : WTy} {n : Nat} {Z : HS} {F A : FT} {g : GN} {kc ks j X : Nat} {c : Int32} {t : Nat} (h : CI n Z F g A) (hn : n < 512) (et : F 0 0 = nI t) (ht : t ≤ 9000) (hX : X < 16777216) (hk1 : kc ≤ 400000) (hk2 : ks ≤ 6000000) (kk : ∀ (Z' : HS) (F' : FT) (g' : GN) (A' : FT) (kc' ks' : Nat), CI (n + 1) Z' F' g' A' → F' 0 0 = nI (t + (1 + X % 30)) → F' 1 0 = F 1 0 → F' 10 0 = F 10 0 → F' 108 0 = F 108 0 → kc' ≤ kc + 12 → ks' ≤ ks + 100 → gL Γ W kc' ks' 223 [some (.ref (sid 4)), some (.ref 800000), some (.int (nI j)), some (.int (nI X)), some (.int c)] [] Z') : gL Γ W kc ks 210 [some (.ref (sid 4)), some (.ref 800000), some (.int (nI j)), some (.int (nI X)), some (.int c)] [] Z := by
  show G Γ M_L_law room_1 W (kc, ks) 210 [some (.ref (sid 4)), some (.ref 800000), some (.int (nI j)), some (.int (nI X)), some (.int c)] [] Z
  refine G_aload_n (pc := 210) dL_law_210 rfl ?_
  refine G_iconst (pc := 211) (v := nI 1) dL_law_211 (by first | rfl | decide) ?_
  refine G_iload_n (pc := 212) dL_law_212 rfl ?_
  refine G_bipush (pc := 213) (v := nI 30) dL_law_213 (by first | rfl | decide) ?_
  refine G_iremN (pc := 215) (by omega) (by omega) (by omega) dL_law_215 ?_
  refine G_iaddN (pc := 216) dL_law_216 ?_
  refine R_Lk (pc := 217) (as := [.int (nI (1 + X % 30))]) mok_X9_pass lk_L_26 (sh_k h.1) rfl rfl ⟨rfl, rfl⟩ (by omega) (by omega) rfl rfl (aos0 rfl) dL_law_217 (m_pass h hn (m := 1 + X % 30) (by omega) (by omega) (by rw [g15_of h et (by omega)]; omega)) (by decide) ((pF_o (Or.inl (by decide))).trans rfl) (fun Y' kc217 ks217 a217 b217 q => ?_)
  obtain ⟨-, g', A', h'⟩ := q
  obtain ⟨q1, hq1, e1⟩ := pN_nn (F := F) (hs := g 1) (m := 1 + X % 30) 4
  refine G_val e1 ?_
  refine G_if_ltN (pc := 220) (tgt := 238) (by omega) dL_law_220 (by decide) (fun c => absurd c (by omega)) (fun _ => ?_)
  obtain ⟨p0, p1, p2, p3⟩ := pass_K (F := F) (hs := g 1) (m := 1 + X % 30)
  exact kk Y' _ g' A' kc217 ks217 h' (by rw [p0, et]; exact nI_add _ _) p1 p2 p3 a217 b217
theorem dr_c {Γ : GTy} {W : WTy} {n : Nat} {Z : HS} {F A : FT} {g : GN} {kc ks j X : Nat} {c : Int32} (h : CI n Z F g A) (hn : n < 512) (e1 : F 1 0 = nI 6) (hX : X < 16777216) (hk1 : kc ≤ 400000) (hk2 : ks ≤ 6000000) (kk : ∀ (Z' : HS) (F' : FT) (g' : GN) (A' : FT) (kc' ks' : Nat), CI (n + 1) Z' F' g' A' → KP F F' → kc' ≤ kc + 12 → ks' ≤ ks + 100 → gL Γ W kc' ks' 210 [some (.ref (sid 4)), some (.ref 800000), some (.int (nI j)), some (.int (nI X)), some (.int c)] [] Z') : gL Γ W kc ks 191 [some (.ref (sid 4)), some (.ref 800000), some (.int (nI j)), some (.int (nI X)), some (.int c)] [] Z := by
  have g20 := h.2.1.1.1.2.2
  show G Γ M_L_law room_1 W (kc, ks) 191 [some (.ref (sid 4)), some (.ref 800000), some (.int (nI j)), some (.int (nI X)), some (.int c)] [] Z
  refine G_aload_n (pc := 191) dL_law_191 rfl ?_
  refine G_iconst (pc := 192) (v := nI 2) dL_law_192 (by first | rfl | decide) ?_
  refine G_iconst (pc := 193) (v := nI 1) dL_law_193 (by first | rfl | decide) ?_
  refine G_iload_n (pc := 194) dL_law_194 rfl ?_
  refine G_iconst (pc := 195) (v := nI 3) dL_law_195 (by first | rfl | decide) ?_
  refine G_idivN (pc := 196) (by omega) (by omega) (by omega) dL_law_196 ?_
  refine G_iconst (pc := 197) (v := nI 3) dL_law_197 (by first | rfl | decide) ?_
  refine G_iremN (pc := 198) (by omega) (by omega) (by omega) dL_law_198 ?_
  refine G_iaddN (pc := 199) dL_law_199 ?_
  refine G_iconst (pc := 200) (v := nI 0) dL_law_200 (by first | rfl | decide) ?_
  refine G_iconst (pc := 201) (v := nI 0) dL_law_201 (by first | rfl | decide) ?_
  refine K_Lk (pc := 202) (by omega) (by omega) (by exact (fun _ => ⟨rfl, aos2 h.1, fun _ hr => nomatch hr⟩)) dL_law_202 (act_2 (QV' := (fun r Z' => ∃ (v : Int32) (F' : FT), r = some (.int v) ∧ ¬ v < -73 ∧ KP F F' ∧ ∃ (g' : GN) (A' : FT), CI (n + 1) Z' F' g' A')) h.1 (m_end h hn (t := 1 + X / 3 % 3) (by omega)) es_3 (fun Z' _ q => by obtain ⟨e, m, hm, em⟩ := end_KP (t := 1 + X / 3 % 3) (r := g 0 (1 + X / 3 % 3)) (h := g 1 (1 + X / 3 % 3)) (h.2.1.1.2.1 (1 + X / 3 % 3) (by omega)).2.2.2.1.1 (Nat.le_trans (h.2.1.1.2.1 (1 + X / 3 % 3) (by omega)).2.2.2.1.2 h.2.1.1.1.1.2) e1 (by decide); exact ⟨_, _, rfl, (by rw [em]; exact nn_ge hm (by decide)), e, q.2⟩) (fun i E Z' _ _ q => by obtain ⟨e, m, hm, em⟩ := end_KP (t := 1 + X / 3 % 3) (r := g 0 (1 + X / 3 % 3)) (h := g 1 (1 + X / 3 % 3)) (h.2.1.1.2.1 (1 + X / 3 % 3) (by omega)).2.2.2.1.1 (Nat.le_trans (h.2.1.1.2.1 (1 + X / 3 % 3) (by omega)).2.2.2.1.2 h.2.1.1.1.1.2) e1 (by decide); exact ⟨_, _, rfl, xc_ge E, e, q.2⟩)) (fun v Y' kc202 ks202 a202 b202 q => ?_)
  obtain ⟨v1, F', rfl, hv1, hK, g', A', h'⟩ := q
  show G _ _ _ _ _ _ _ (_ :: _) _
  refine G_bipush (pc := 205) (v := -73) dL_law_205 (by first | rfl | decide) ?_
  refine G_icmp_lt (pc := 207) (tgt := 238) dL_law_207 (by decide) (fun c => absurd c hv1) (fun _ => ?_)
  exact kk Y' F' g' A' kc202 ks202 h' hK a202 b202
theorem dr_b {Γ : GTy} {W : WTy} {n : Nat} {Z : HS} {F A : FT} {g : GN} {kc ks j X : Nat} {c : Int32} (h : CI n Z F g A) (hn : n < 512) (hX : X < 16777216) (hk1 : kc ≤ 400000) (hk2 : ks ≤ 6000000) (kk : ∀ (Z' : HS) (F' : FT) (g' : GN) (A' : FT) (kc' ks' : Nat), CI (n + 1) Z' F' g' A' → KP F F' → kc' ≤ kc + 12 → ks' ≤ ks + 100 → gL Γ W kc' ks' 191 [some (.ref (sid 4)), some (.ref 800000), some (.int (nI j)), some (.int (nI X)), some (.int c)] [] Z') : gL Γ W kc ks 171 [some (.ref (sid 4)), some (.ref 800000), some (.int (nI j)), some (.int (nI X)), some (.int c)] [] Z := by
  have g20 := h.2.1.1.1.2.2
  show G Γ M_L_law room_1 W (kc, ks) 171 [some (.ref (sid 4)), some (.ref 800000), some (.int (nI j)), some (.int (nI X)), some (.int c)] [] Z
  refine G_aload_n (pc := 171) dL_law_171 rfl ?_
  refine G_iconst (pc := 172) (v := nI 1) dL_law_172 (by first | rfl | decide) ?_
  refine G_iconst (pc := 173) (v := nI 1) dL_law_173 (by first | rfl | decide) ?_
  refine G_iload_n (pc := 174) dL_law_174 rfl ?_
  refine G_iconst (pc := 175) (v := nI 3) dL_law_175 (by first | rfl | decide) ?_
  refine G_iremN (pc := 176) (by omega) (by omega) (by omega) dL_law_176 ?_
  refine G_iaddN (pc := 177) dL_law_177 ?_
  refine G_iload_n (pc := 178) dL_law_178 rfl ?_
  refine G_bipush (pc := 179) (v := nI 8) dL_law_179 (by first | rfl | decide) ?_
  refine G_iremN (pc := 181) (by omega) (by omega) (by omega) dL_law_181 ?_
  refine G_iconst (pc := 182) (v := nI 0) dL_law_182 (by first | rfl | decide) ?_
  refine K_Lk (pc := 183) (by omega) (by omega) (by exact (fun _ => ⟨rfl, aos2 h.1, fun _ hr => nomatch hr⟩)) dL_law_183 (act_1 (QV' := (fun r Z' => ∃ (v : Int32) (F' : FT), r = some (.int v) ∧ ¬ v < -73 ∧ KP F F' ∧ ∃ (g' : GN) (A' : FT), CI (n + 1) Z' F' g' A')) h.1 (m_rent h hn (t := 1 + X % 3) (c := X % 8) (by omega) (by omega)) es_3 (fun Z' _ q => by obtain ⟨e, m, hm, em⟩ := rent_KP (F := F) (t := 1 + X % 3) (c := X % 8); exact ⟨_, _, rfl, (by rw [em]; exact nn_ge hm (by decide)), e, q.2⟩) (fun i E Z' _ _ q => ⟨_, _, rfl, xc_ge E, (rent_KP (F := F) (t := 1 + X % 3) (c := X % 8)).1, q.2⟩)) (fun v Y' kc183 ks183 a183 b183 q => ?_)
  obtain ⟨v1, F', rfl, hv1, hK, g', A', h'⟩ := q
  show G _ _ _ _ _ _ _ (_ :: _) _
  refine G_bipush (pc := 186) (v := -73) dL_law_186 (by first | rfl | decide) ?_
  refine G_icmp_lt (pc := 188) (tgt := 238) dL_law_188 (by decide) (fun c => absurd c hv1) (fun _ => ?_)
  exact kk Y' F' g' A' kc183 ks183 h' hK a183 b183
theorem dr_a {Γ : GTy} {W : WTy} {n : Nat} {Z : HS} {F A : FT} {g : GN} {kc ks j X : Nat} {c : Int32} (h : CI n Z F g A) (hf : 0 < g 16 0) (hk1 : kc ≤ 400000) (hk2 : ks ≤ 6000000) (kk : ∀ (Z' : HS) (kc' ks' : Nat), CI n Z' F g A → kc' ≤ kc + 36 → ks' ≤ ks + 300 → gL Γ W kc' ks' 171 [some (.ref (sid 4)), some (.ref 800000), some (.int (nI j)), some (.int (nI X)), some (.int c)] [] Z') : gL Γ W kc ks 149 [some (.ref (sid 4)), some (.ref 800000), some (.int (nI j)), some (.int (nI X)), some (.int c)] [] Z := by
  show G Γ M_L_law room_1 W (kc, ks) 149 [some (.ref (sid 4)), some (.ref 800000), some (.int (nI j)), some (.int (nI X)), some (.int c)] [] Z
  refine G_aload_n (pc := 149) dL_law_149 rfl ?_
  refine G_iconst (pc := 150) (v := nI 0) dL_law_150 (by first | rfl | decide) ?_
  refine G_iconst (pc := 151) (v := nI 0) dL_law_151 (by first | rfl | decide) ?_
  refine R_Lk (pc := 152) (as := [.int (nI 0), .int (nI 0)]) mok_X9_cell lk_L_96 (sh_k h.1) rfl rfl ⟨rfl, rfl⟩ (by omega) (by omega) rfl rfl (aos0 rfl) dL_law_152 (t_cell h (f := 0) (b := 0) hf (by decide)) (by decide) u2_e (fun Y' kc152 ks152 a152 b152 q => ?_)
  subst q
  obtain ⟨cc, hc1, ec⟩ : ∃ cc, cc < 128 ∧ F 118 (8 * 0 + 0) = nI cc := by
    have q := (h.2.1.1.2.2.2.2.1 0 hf).2.1
    rcases q.1 0 (by decide) with e | e
    · exact absurd e q.2.2
    · exact e
  refine G_val ec ?_
  refine G_if_ltN (pc := 155) (tgt := 238) (by omega) dL_law_155 (by decide) (fun c => absurd c (by omega)) (fun _ => ?_)
  refine G_aload_n (pc := 158) dL_law_158 rfl ?_
  refine G_iconst (pc := 159) (v := nI 0) dL_law_159 (by first | rfl | decide) ?_
  refine R_Lk (pc := 160) (as := [.int (nI 0)]) mok_X9_owes lk_L_62 (sh_k h.1) rfl rfl ⟨rfl, rfl⟩ (by omega) (by omega) rfl rfl (aos0 rfl) dL_law_160 (t_owes h (c := 0) (by decide)) (by decide) u2_e (fun Y' kc160 ks160 a160 b160 q => ?_)
  subst q
  refine G_aload_n (pc := 163) dL_law_163 rfl ?_
  refine G_iconst (pc := 164) (v := nI 0) dL_law_164 (by first | rfl | decide) ?_
  refine R_Lk (pc := 165) (as := [.int (nI 0)]) mok_X9_owesAnew lk_L_65 (sh_k h.1) rfl rfl ⟨rfl, rfl⟩ (by omega) (by omega) rfl rfl (aos0 rfl) dL_law_165 (t_owesAnew h (c := 0) (by decide)) (by decide) u2_e (fun Y' kc165 ks165 a165 b165 q => ?_)
  subst q
  refine G_icmp_ne (pc := 168) (tgt := 238) dL_law_168 (by decide) (fun c => absurd rfl c) (fun _ => ?_)
  exact kk _ kc165 ks165 h (by omega) (by omega)
theorem dr_s {Γ : GTy} {W : WTy} {n : Nat} {Z : HS} {F A : FT} {g : GN} {kc ks j X : Nat} {c : Int32} (hG : GS Γ) (h : CI n Z F g A) (hn : n < 512) (hf : 0 < g 16 0) (hs : F 113 0 = nI 0) (hq : 0 < F 108 0 ∨ (F 114 0 = nI 0 ∧ F 111 0 = nI 0 ∧ lastW (fun k => F 107 k = nI 1) 6 = nI 0)) (hX : X < 16777216) (hk1 : kc ≤ 400000) (hk2 : ks ≤ 6000000) (kk : ∀ (Z' : HS) (F' : FT) (g' : GN) (A' : FT) (kc' ks' : Nat), CI (n + 1) Z' F' g' A' → F' 0 0 = F 0 0 → F' 1 0 = F 1 0 → F' 10 0 = F 10 0 → 0 < F' 108 0 → kc' ≤ kc + 12 → ks' ≤ ks + 100 → gL Γ W kc' ks' 149 [some (.ref (sid 4)), some (.ref 800000), some (.int (nI j)), some (.int (nI X)), some (.int c)] [] Z') : gL Γ W kc ks 124 [some (.ref (sid 4)), some (.ref 800000), some (.int (nI j)), some (.int (nI X)), some (.int c)] [] Z := by
  have fr := h.2.1.1.2.2.2.2.1 0 hf
  have u1 := fr.1.2.2.2.1.2
  obtain ⟨c1, c8, ec⟩ : ∃ c1, c1 < 8 ∧ F 111 (2 * 0 + g 22 0) = nI c1 := by
    have : g 22 0 = 0 ∨ g 22 0 = 1 := by omega
    rcases this with e | e
    · rw [e]; exact ⟨_, fr.1.1.2, fr.1.1.1⟩
    · rw [e]; exact ⟨_, fr.1.2.1.2, fr.1.2.1.1⟩
  have hon : lowF F 0 = -1 ∨ ∃ k, k < 8 ∧ lowF F 0 = nI k := by
    rcases lowA_spec (p := fun k => ¬ F 118 (8 * 0 + k) < 0) (n := 7) (by decide) with e | ⟨k, _, hk, _, e⟩
    · exact Or.inl e.1
    · exact Or.inr ⟨k, hk, e⟩
  have h108 : 0 < shW F 0 (X % 8) c1 (nI (1 + X / 8 % 40)) 108 0 := by
    refine shW_108 (w0 := 0) (fun v hv => (h.2.1.1.2.2.1 v hv).2) (by omega) ?_
    rcases hq with q | ⟨q1, q2, q3⟩
    · exact Or.inl q
    · refine Or.inr ?_
      have e22 : g 22 0 = 0 := (nI_eq (by omega) (by decide)).mp (fr.1.2.2.2.1.1.symm.trans q1)
      rw [e22] at ec
      have ec1 : c1 = 0 := (nI_eq (by omega) (by decide)).mp (ec.symm.trans q2)
      rw [ec1]
      exact q3
  show G Γ M_L_law room_1 W (kc, ks) 124 [some (.ref (sid 4)), some (.ref 800000), some (.int (nI j)), some (.int (nI X)), some (.int c)] [] Z
  refine G_aload_n (pc := 124) dL_law_124 rfl ?_
  refine G_bipush (pc := 125) (v := nI 9) dL_law_125 (by first | rfl | decide) ?_
  refine G_iconst (pc := 127) (v := nI 0) dL_law_127 (by first | rfl | decide) ?_
  refine G_iload_n (pc := 128) dL_law_128 rfl ?_
  refine G_bipush (pc := 129) (v := nI 8) dL_law_129 (by first | rfl | decide) ?_
  refine G_iremN (pc := 131) (by omega) (by omega) (by omega) dL_law_131 ?_
  refine G_iconst (pc := 132) (v := nI 1) dL_law_132 (by first | rfl | decide) ?_
  refine G_iload_n (pc := 133) dL_law_133 rfl ?_
  refine G_bipush (pc := 134) (v := nI 8) dL_law_134 (by first | rfl | decide) ?_
  refine G_idivN (pc := 136) (by omega) (by omega) (by omega) dL_law_136 ?_
  refine G_bipush (pc := 137) (v := nI 40) dL_law_137 (by first | rfl | decide) ?_
  refine G_iremN (pc := 139) (by omega) (by omega) (by omega) dL_law_139 ?_
  refine G_iaddN (pc := 140) dL_law_140 ?_
  refine K_Lk (pc := 141) (by omega) (by omega) (by exact (fun _ => ⟨rfl, aos2 h.1, fun _ hr => nomatch hr⟩)) dL_law_141 (act_9 (QV' := (fun r Z' => ∃ (v : Int32) (F' : FT), r = some (.int v) ∧ ¬ v < -7 ∧ (F' 0 0 = F 0 0 ∧ F' 1 0 = F 1 0 ∧ F' 10 0 = F 10 0 ∧ 0 < F' 108 0) ∧ ∃ (g' : GN) (A' : FT), CI (n + 1) Z' F' g' A')) h.1 (m_shoot hG h hn (f := 0) (d := X % 8) (c := c1) (z := nI (1 + X / 8 % 40)) hf (by omega) ⟨nI_le (by omega) (by omega), nI_le (by omega) (by decide)⟩ hs c8 ec) es_5 (fun Z' _ q => ⟨_, _, rfl, shE_v hon, ⟨(shE_o (Or.inl rfl)).trans (shW_o (Or.inl rfl)), (shE_o (Or.inr (Or.inl rfl))).trans (shW_o (Or.inr (Or.inl rfl))), (shE_o (Or.inr (Or.inr (Or.inl rfl)))).trans (shW_o (Or.inr (Or.inr rfl))), by rw [shE_o (Or.inr (Or.inr (Or.inr rfl)))]; exact h108⟩, q.2⟩) (fun i E Z' q1 q2 _ => no_x (by decide) (shE_25 shW_25) q1 q2)) (fun v Y' kc' ks' a1 b1 q => ?_)
  obtain ⟨v1, F', rfl, hv1, ⟨k0, k1, k10, k108⟩, g', A', h'⟩ := q
  show G _ _ _ _ _ _ _ (_ :: _) _
  refine G_bipush (pc := 144) (v := -7) dL_law_144 (by first | rfl | decide) ?_
  refine G_icmp_lt (pc := 146) (tgt := 238) dL_law_146 (by decide) (fun c => absurd c hv1) (fun _ => ?_)
  exact kk Y' F' g' A' kc' ks' h' k0 k1 k10 k108 a1 b1
theorem dr_0 {Γ : GTy} {W : WTy} {n : Nat} {Z : HS} {F A : FT} {g : GN} {kc ks j X : Nat} {t : Nat} (hG : GS Γ) (h : CI n Z F g A) (hn : n ≤ 400) (e1 : F 1 0 = nI 6) (e10 : F 10 0 = nI 1) (et : F 0 0 = nI t) (ht : t ≤ 8000) (h9 : 0 < F 108 0 ∨ (F 113 0 = nI 0 ∧ F 114 0 = nI 0 ∧ F 111 0 = nI 0 ∧ lastW (fun k => F 107 k = nI 1) 6 = nI 0)) (hj : j < 24) (hX : X < 16777216) (hk1 : kc ≤ 300000) (hk2 : ks ≤ 5000000)
    (kk : ∀ (Z' : HS) (F' : FT) (g' : GN) (A' : FT) (n' kc' ks' : Nat), CI n' Z' F' g' A' → n' ≤ n + 4 → F' 1 0 = nI 6 → F' 10 0 = nI 1 → (∃ t', t' ≤ t + 30 ∧ F' 0 0 = nI t') → 0 < F' 108 0 → kc' ≤ kc + 5500 → ks' ≤ ks + 46000 → gL Γ W kc' ks' 46 [some (.ref (sid 4)), some (.ref 800000), some (.int (nI (j + 1))), none, none] [] Z') : gL Γ W kc ks 73 [some (.ref (sid 4)), some (.ref 800000), some (.int (nI j)), none, none] [.int (nI X)] Z := by
  have hf : 0 < g 16 0 := fr_lt h e10 ⟨by decide, by decide⟩
  obtain ⟨m, hm, em⟩ := cn_shot (F := thr (thr F (nI 0)) (nI 0)) (f := 0) (d := X % 8) (p := nI (1 + X % 40))
  have rest : ∀ (Z1 : HS) (F1 : FT) (g1 : GN) (A1 : FT) (n1 kc1 ks1 : Nat), CI n1 Z1 F1 g1 A1 → n1 ≤ n + 1 → F1 0 0 = F 0 0 → F1 1 0 = F 1 0 → F1 10 0 = F 10 0 → 0 < F1 108 0 → kc1 ≤ kc + 48 → ks1 ≤ ks + 400 → gL Γ W kc1 ks1 149 [some (.ref (sid 4)), some (.ref 800000), some (.int (nI j)), some (.int (nI X)), some (.int (nI m))] [] Z1 := by
    intro Z1 F1 g1 A1 n1 kc1 ks1 h1 hn1 q0 q1 q10 q8 a1 a2
    refine dr_a h1 (fr_lt h1 (q10.trans e10) ⟨by decide, by decide⟩) (by omega) (by omega) (fun Z2 kc2 ks2 h2 a3 a4 => ?_)
    refine dr_b h2 (by omega) hX (by omega) (by omega) (fun Z3 F3 g3 A3 kc3 ks3 h3 p3 a5 a6 => ?_)
    refine dr_c h3 (by omega) (p3.2.1.trans (q1.trans e1)) hX (by omega) (by omega) (fun Z4 F4 g4 A4 kc4 ks4 h4 p4 a7 a8 => ?_)
    refine dr_d (t := t) h4 (by omega) (p4.1.trans (p3.1.trans (q0.trans et))) (by omega) hX (by omega) (by omega) (fun Z5 F5 g5 A5 kc5 ks5 h5 r0 r1 r10 r8 a9 a10 => ?_)
    have f10 : F5 10 0 = nI 1 := r10.trans (p4.2.2.1.trans (p3.2.2.1.trans (q10.trans e10)))
    refine dr_e h5 f10 hj (by omega) (by omega) (fun kc6 ks6 a11 a12 => ?_)
    refine kk Z5 F5 g5 A5 _ kc6 ks6 h5 (by omega) (r1.trans (p4.2.1.trans (p3.2.1.trans (q1.trans e1)))) f10 ⟨_, by omega, r0⟩ ?_ (by omega) (by omega)
    rw [r8, p4.2.2.2, p3.2.2.2]
    exact q8
  show G Γ M_L_law room_1 W (kc, ks) 73 [some (.ref (sid 4)), some (.ref 800000), some (.int (nI j)), none, none] [.int (nI X)] Z
  refine G_istore_n (pc := 73) dL_law_73 (by decide) ?_
  refine G_aload_n (pc := 74) dL_law_74 rfl ?_
  refine G_iconst (pc := 75) (v := nI 0) dL_law_75 (by first | rfl | decide) ?_
  refine G_iload_n (pc := 76) dL_law_76 rfl ?_
  refine G_bipush (pc := 77) (v := nI 8) dL_law_77 (by first | rfl | decide) ?_
  refine G_iremN (pc := 79) (by omega) (by omega) (by omega) dL_law_79 ?_
  refine G_iconst (pc := 80) (v := nI 1) dL_law_80 (by first | rfl | decide) ?_
  refine G_iload_n (pc := 81) dL_law_81 rfl ?_
  refine G_bipush (pc := 82) (v := nI 40) dL_law_82 (by first | rfl | decide) ?_
  refine G_iremN (pc := 84) (by omega) (by omega) (by omega) dL_law_84 ?_
  refine G_iaddN (pc := 85) dL_law_85 ?_
  refine R_Lk (pc := 86) (as := [.int (nI 0), .int (nI (X % 8)), .int (nI (1 + X % 40))]) mok_X9_contacts lk_L_99 (sh_k h.1) rfl rfl ⟨rfl, rfl⟩ (by omega) (by omega) rfl rfl (aos0 rfl) dL_law_86 (t_contacts hG h (f := 0) (d := X % 8) (z := nI (1 + X % 40)) hf (by omega) ⟨nI_le (by omega) (by omega), nI_le (by omega) (by decide)⟩) (by decide) ((mShot_o (by decide)).trans u2_e) (fun Y' kc86 ks86 a86 b86 q => ?_)
  replace h := q
  refine G_val em ?_
  refine G_istore (pc := 89) dL_law_89 (by decide) ?_
  refine G_iload (pc := 91) dL_law_91 rfl ?_
  refine G_aload_n (pc := 93) dL_law_93 rfl ?_
  refine G_iconst (pc := 94) (v := nI 0) dL_law_94 (by first | rfl | decide) ?_
  refine G_iload_n (pc := 95) dL_law_95 rfl ?_
  refine G_bipush (pc := 96) (v := nI 8) dL_law_96 (by first | rfl | decide) ?_
  refine G_iremN (pc := 98) (by omega) (by omega) (by omega) dL_law_98 ?_
  refine G_iconst (pc := 99) (v := nI 1) dL_law_99 (by first | rfl | decide) ?_
  refine G_iload_n (pc := 100) dL_law_100 rfl ?_
  refine G_bipush (pc := 101) (v := nI 40) dL_law_101 (by first | rfl | decide) ?_
  refine G_iremN (pc := 103) (by omega) (by omega) (by omega) dL_law_103 ?_
  refine G_iaddN (pc := 104) dL_law_104 ?_
  refine R_Lk (pc := 105) (as := [.int (nI 0), .int (nI (X % 8)), .int (nI (1 + X % 40))]) mok_X9_contactsByPairs lk_L_102 (sh_k h.1) rfl rfl ⟨rfl, rfl⟩ (by omega) (by omega) rfl rfl (aos0 rfl) dL_law_105 (t_contactsByPairs hG h (f := 0) (d := X % 8) (z := nI (1 + X % 40)) hf (by omega) ⟨nI_le (by omega) (by omega), nI_le (by omega) (by decide)⟩) (by decide) ((mShot_o (by decide)).trans u2_e) (fun Y2 kc105 ks105 a105 b105 q => ?_)
  replace h := q
  refine G_val em ?_
  refine G_icmp_ne (pc := 108) (tgt := 238) dL_law_108 (by decide) (fun c => absurd rfl c) (fun _ => ?_)
  refine G_iload (pc := 111) dL_law_111 rfl ?_
  refine G_if_ltN (pc := 113) (tgt := 238) (by omega) dL_law_113 (by decide) (fun c113 => ?_) (fun c113 => ?_)
  · omega
  · skip
    refine G_aload_n (pc := 116) dL_law_116 rfl ?_
    refine G_iconst (pc := 117) (v := nI 0) dL_law_117 (by first | rfl | decide) ?_
    refine R_Lk (pc := 118) (as := [.int (nI 0)]) mok_X9_state lk_L_77 (sh_k h.1) rfl rfl ⟨rfl, rfl⟩ (by omega) (by omega) rfl rfl (aos0 rfl) dL_law_118 (t_state h (f := 0) hf) (by decide) u2_e (fun Y' kc118 ks118 a118 b118 q => ?_)
    subst q
    refine G_if_ne (pc := 121) (tgt := 149) dL_law_121 (by decide) (fun c => ?_) (fun c => ?_)
    · have h8 : 0 < F 108 0 := by
        rcases h9 with q | q
        · exact q
        · exact absurd q.1 c
      exact rest _ _ _ _ _ _ _ h (by omega) rfl rfl rfl h8 (by omega) (by omega)
    · exact dr_s hG h (by omega) hf c (h9.imp id (fun q => q.2)) hX (by omega) (by omega) (fun Z' F' g' A' kc' ks' h' k0 k1 k10 k8 a1 a2 => rest Z' F' g' A' (n + 1) kc' ks' h' (by omega) k0 k1 k10 k8 (by omega) (by omega))
