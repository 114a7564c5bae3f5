-- ===== the drawn hall: the loop; the law from its first call =====
theorem dr_loop {Γ : GTy} {W : WTy} (hG : GS Γ) (hlen : (gt Γ 4).2.1 ≤ 260) (kk : ∀ (Z : HS) (F A : FT) (g : GN) (n kc ks : Nat), CI n Z F g A → 0 < F 108 0 → kc ≤ 300000 → ks ≤ 4000000 → gL Γ W kc ks 246 [some (.ref (sid 4)), some (.ref 800000), some (.int (nI 24)), none, none] [] Z) : ∀ (m j : Nat), j + m = 24 → ∀ {Z : HS} {F A : FT} {g : GN} {n kc ks : Nat}, CI n Z F g A → n ≤ 2 + 4 * j → LI j F → kc ≤ 70000 + 6000 * j → ks ≤ 600000 + 50000 * j → gL Γ W kc ks 46 [some (.ref (sid 4)), some (.ref 800000), some (.int (nI j)), none, none] [] Z := by
  intro m
  induction m with
  | zero =>
    intro j hj Z F A g n kc ks h hn hL h1 h2
    obtain rfl : j = 24 := by omega
    show G Γ M_L_law room_1 W (kc, ks) 46 [some (.ref (sid 4)), some (.ref 800000), some (.int (nI 24)), none, none] [] Z
    refine G_iload_n (pc := 46) dL_law_46 rfl ?_
    refine G_bipush (pc := 47) (v := nI 24) dL_law_47 (by first | rfl | decide) ?_
    refine G_icmp_geN (pc := 49) (tgt := 246) (by omega) (by omega) dL_law_49 (by decide) (fun _ => ?_) (fun c => absurd c (by decide))
    refine kk Z F A g n kc ks h ?_ (by omega) (by omega)
    rcases hL.2.2.2 with q | q
    · exact q
    · exact absurd q.1 (by decide)
  | succ m ih =>
    intro j hj Z F A g n kc ks h hn hL h1 h2
    obtain ⟨l1, l2, ⟨t, l3, l4⟩, l5⟩ := hL
    have go : ∀ X : Nat, X < 16777216 → gL Γ W kc ks 73 [some (.ref (sid 4)), some (.ref 800000), some (.int (nI j)), none, none] [.int (nI X)] Z := by
      intro X hX
      refine dr_0 hG h (by omega) l1 l2 l4 (by omega) (l5.imp id (fun q => q.2)) (by omega) hX (by omega) (by omega) (fun Z' F' g' A' n' kc' ks' h' a1 a2 a3 a4 a5 a6 a7 => ?_)
      obtain ⟨t', b1, b2⟩ := a4
      clear kk
      have b3 : kc' ≤ 70000 + 6000 * (j + 1) := by rw [Nat.mul_add]; exact Nat.le_trans a6 (Nat.le_trans (Nat.add_le_add_right h1 5500) (by generalize 6000 * j = q; omega))
      have b4 : ks' ≤ 600000 + 50000 * (j + 1) := by rw [Nat.mul_add]; exact Nat.le_trans a7 (Nat.le_trans (Nat.add_le_add_right h2 46000) (by generalize 50000 * j = q; omega))
      exact ih (j + 1) (by omega) h' (by omega) ⟨a2, a3, ⟨t', by omega, b2⟩, Or.inl a5⟩ b3 b4
    show G Γ M_L_law room_1 W (kc, ks) 46 [some (.ref (sid 4)), some (.ref 800000), some (.int (nI j)), none, none] [] Z
    refine G_iload_n (pc := 46) dL_law_46 rfl ?_
    refine G_bipush (pc := 47) (v := nI 24) dL_law_47 (by first | rfl | decide) ?_
    refine G_icmp_geN (pc := 49) (tgt := 246) (by omega) (by omega) dL_law_49 (by decide) (fun c => absurd c (by omega)) (fun _ => ?_)
    refine G_aload_n (pc := 52) dL_law_52 rfl ?_
    refine G_slen (pc := 53) (i := 4) (v := nI (gt Γ 4).2.1) (by decide) rfl dL_law_53 ?_
    refine G_if_neN (pc := 54) (tgt := 64) (by omega) dL_law_54 (by decide) (fun c => ?_) (fun c => ?_)
    · refine G_aload_n (pc := 64) dL_law_64 rfl ?_
      refine G_iload_n (pc := 65) dL_law_65 rfl ?_
      refine G_aload_n (pc := 66) dL_law_66 rfl ?_
      refine G_slen (pc := 67) (i := 4) (v := nI (gt Γ 4).2.1) (by decide) rfl dL_law_67 ?_
      refine G_iremN (pc := 68) (by omega) (by omega) (by omega) dL_law_68 ?_
      refine G_sald (pc := 69) (i := 4) (j := j % (gt Γ 4).2.1) (by decide) rfl (Nat.mod_lt _ (by omega)) (Nat.lt_of_le_of_lt (Nat.mod_le _ _) (by omega)) dL_law_69 ?_
      refine G_bipush (pc := 70) (v := nI 8) dL_law_70 (by first | rfl | decide) ?_
      refine G_iushr (pc := 72) dL_law_72 ?_
      obtain ⟨X, hX, eX⟩ := shr8 ((gt Γ 4).2.2 (j % (gt Γ 4).2.1))
      refine G_val eX ?_
      exact go X hX
    · refine G_bipush (pc := 57) (v := nI 71) dL_law_57 (by first | rfl | decide) ?_
      refine G_iload_n (pc := 59) dL_law_59 rfl ?_
      refine G_imulN (pc := 60) dL_law_60 ?_
      refine G_goto (pc := 61) (tgt := 73) dL_law_61 (by decide) ?_
      exact go (71 * j) (by omega)
def drN_0 : Nat := 393216
def drN_1 : Nat := 49178557732150155703035805374265650890705573248616698726561165854510259206497979992533801395137110975796580121994480690493096700345041439757369045398294544717499589382812130238494836889613727517423230189161396542479626926175604513907377153553757755078609425885475244712930185175125000077747552256
def drN_2 : Nat := 49178557732150155703035805374265650890705573248616698726561165854510259206497979992533801395137110975796580121994480690493096700345041439757369045398294544717499589393902809014978096327927384253995565002907144843982893226857522836365862384776260247238507050302033557102495029020739287393644183552
theorem LI_0 : LI 0 (toF drN_2) := ⟨by decide +kernel, by decide +kernel, ⟨0, by decide, by decide +kernel⟩, Or.inr ⟨rfl, by decide +kernel, by decide +kernel, by decide +kernel, by decide +kernel⟩⟩
theorem law_drawn {Γ : GTy} {W : WTy} (hG : GS Γ) (hlen : (gt Γ 4).2.1 ≤ 260) (kk : ∀ (Z : HS) (kc ks : Nat), kc ≤ 400000 → ks ≤ 5000000 → gL Γ W kc ks 259 [some (.ref (sid 4)), some (.ref 800000), some (.int (nI 24)), none, none] [.int (nI 1)] Z) {kc ks : Nat} (h1 : kc ≤ 66000) (h2 : ks ≤ 560000) : gL Γ W kc ks 14 [some (.ref (sid 4)), none, none, none, none] [] U0 := by
  have fin : ∀ (Z : HS) (F A : FT) (g : GN) (n kc ks : Nat), CI n Z F g A → 0 < F 108 0 → kc ≤ 300000 → ks ≤ 4000000 → gL Γ W kc ks 246 [some (.ref (sid 4)), some (.ref 800000), some (.int (nI 24)), none, none] [] Z := by
    intro Z F A g n kc ks h h8 a1 a2
    show G Γ M_L_law room_1 W (kc, ks) 246 [some (.ref (sid 4)), some (.ref 800000), some (.int (nI 24)), none, none] [] Z
    refine G_aload_n (pc := 246) dL_law_246 rfl ?_
    refine G_iconst (pc := 247) (v := nI 0) dL_law_247 (by first | rfl | decide) ?_
    refine R_Lk (pc := 248) (as := [.int (nI 0)]) mok_X9_wear lk_L_105 (sh_k h.1) rfl rfl ⟨rfl, rfl⟩ (by omega) (by omega) rfl rfl (aos0 rfl) dL_law_248 (t_wear h (u := 0) (by decide)) (by decide) u2_e (fun Y' kc' ks' b1 b2 q => ?_)
    refine G_if_le (pc := 251) (tgt := 258) dL_law_251 (by decide) (fun c => absurd h8 (Int32.not_lt.mpr c)) (fun _ => ?_)
    refine G_iconst (pc := 254) (v := nI 1) dL_law_254 (by first | rfl | decide) ?_
    refine G_goto (pc := 255) (tgt := 259) dL_law_255 (by decide) ?_
    exact kk Y' kc' ks' (by omega) (by omega)
  show G Γ M_L_law room_1 W (kc, ks) 14 [some (.ref (sid 4)), none, none, none, none] [] U0
  refine G_new (pc := 14) (c := 8) 800000 rfl rfl (by decide) ⟨by decide, by decide⟩ (by decide) cl_L_8 wN_8.1 wN_8.2 ⟨show kc + 1 ≤ 614554 by omega, show ks + 16 ≤ 7257963 by omega⟩ dL_law_14 ?_
  show G _ _ _ _ (kc + 1, ks + 16) _ _ _ hS_0
  refine G_dup (pc := 17) dL_law_17 rfl ?_
  refine K_LI (pc := 18) (as := []) (k' := (kc + 1 + 40, ks + 16 + 2200)) (b := 800000) mok_X9_init lk_L_131 (rmB_le (a := 500000) (b := 7000000) rfl (show kc + 1 ≤ 500000 by omega) (show ks + 16 ≤ 7000000 by omega)) rfl rfl (fun _ => ⟨rfl, fun r hr => Or.inr ⟨4, by decide, List.mem_singleton.mp (show r ∈ [sid 4] from hr)⟩, fun r hr => by rw [List.mem_singleton.mp (show r ∈ [800000] from hr)]; decide⟩) dL_law_18 C_hallInit rfl ?_
  refine G_astore_n (pc := 21) dL_law_21 (by decide) ?_
  have h : CI 0 hS_42 (toF drN_0) g0m (fun _ _ => 0) := CI_frz CI_0 (by decide +kernel) (by decide +kernel)
  show G Γ M_L_law room_1 W (kc + 41, ks + 2216) 22 [some (.ref (sid 4)), some (.ref 800000), none, none, none] [] hS_42
  refine G_aload_n (pc := 22) dL_law_22 rfl ?_
  refine G_iconst (pc := 23) (v := nI 0) dL_law_23 (by first | rfl | decide) ?_
  refine G_iconst (pc := 24) (v := nI 0) dL_law_24 (by first | rfl | decide) ?_
  refine G_iconst (pc := 25) (v := nI 1) dL_law_25 (by first | rfl | decide) ?_
  refine G_iconst (pc := 26) (v := nI 1) dL_law_26 (by first | rfl | decide) ?_
  refine R_Lk (pc := 27) (as := [.int (nI 0), .int (nI 0), .int (nI 1), .int (nI 1)]) mok_X9_begin lk_L_29 (sh_k h.1) rfl rfl ⟨rfl, rfl⟩ (by omega) (by omega) rfl rfl (by exact (fun _ => ⟨rfl, aos2 h.1, fun _ hr => nomatch hr⟩)) dL_law_27 (k_begin hG h (by decide) (t := 0) (a := 0) (c := 1) (z := nI 1) (m := 0) (by decide) (by decide) (by decide) (Or.inr rfl) (by decide +kernel) (by decide)) (by decide) (by decide +kernel) (fun Y1 kc1 ks1 a1 b1 q => ?_)
  obtain ⟨-, g1, A1, h'⟩ := q
  have h := CI_frz (N := drN_1) h' (by decide +kernel) (by decide +kernel)
  refine G_val (w := nI 0) (by decide +kernel) ?_
  refine G_if_ne (pc := 30) (tgt := 42) dL_law_30 (by decide) (fun h => absurd h (by decide)) (fun _ => ?_)
  refine G_aload_n (pc := 33) dL_law_33 rfl ?_
  refine G_iconst (pc := 34) (v := nI 0) dL_law_34 (by first | rfl | decide) ?_
  refine G_iconst (pc := 35) (v := nI 0) dL_law_35 (by first | rfl | decide) ?_
  refine R_Lk (pc := 36) (as := [.int (nI 0), .int (nI 0)]) mok_X9_lend lk_L_40 (sh_k h.1) rfl rfl ⟨rfl, rfl⟩ (by omega) (by omega) rfl rfl (by exact (fun _ => ⟨rfl, aos2 h.1, fun _ hr => nomatch hr⟩)) dL_law_36 (m_lend h (by decide) (u := 0) (c := 0) (by decide) (by decide)) (by decide) (by decide +kernel) (fun Y2 kc2 ks2 a2 b2 q => ?_)
  obtain ⟨-, g2, A2, h''⟩ := q
  have h := CI_frz (N := drN_2) h'' (by decide +kernel) (by decide +kernel)
  refine G_val (w := nI 0) (by decide +kernel) ?_
  refine G_if_eq (pc := 39) (tgt := 44) dL_law_39 (by decide) (fun _ => ?_) (fun h => absurd h (by decide))
  refine G_iconst (pc := 44) (v := nI 0) dL_law_44 (by first | rfl | decide) ?_
  refine G_istore_n (pc := 45) dL_law_45 (by decide) ?_
  exact dr_loop hG hlen fin 24 0 rfl h (by decide) LI_0 (by omega) (by omega)
theorem law_all {Γ : GTy} {W : WTy} (hW : ∀ (α0 α1 : Nat → Nat) (Y0 Y1 : HS), W α0 Y0 = W α1 Y1) (hG : GS Γ) (hlen : (gt Γ 4).2.1 ≤ 260) (kk : ∀ (Z : HS) (kc ks : Nat), kc ≤ 400000 → ks ≤ 5000000 → gL Γ W kc ks 259 [some (.ref (sid 4)), some (.ref 800000), some (.int (nI 24)), none, none] [.int (nI 1)] Z) : gL Γ W 0 0 0 [some (.ref (sid 4)), none, none, none, none] [] U0 := by
  have st4 : ∀ r ∈ rfs [some (.ref (sid 4)), none, none, none, none], ∃ i, i < 5 ∧ r = sid i := fun r hr => ⟨4, by decide, List.mem_singleton.mp (show r ∈ [sid 4] from hr)⟩
  have AO : ∀ {ν : MTy} {Y : HS}, AOS M_L_law ν [some (.ref (sid 4)), none, none, none, none] [] Y := fun {ν Y} _ => ⟨rfl, fun r hr => Or.inr (st4 r hr), fun _ hr => nomatch hr⟩
  show G Γ M_L_law room_1 W (0, 0) 0 [some (.ref (sid 4)), none, none, none, none] [] U0
  refine K_LS (pc := 0) (k' := (32000, 270000)) (as := []) mok_L_tables lk_L_152 rfl rfl rfl AO dL_law_0 (C_tables hG) rfl (fun v Y' q => ?_)
  obtain rfl := q
  show G _ _ _ _ _ _ _ (_ :: _) _
  refine G_if_eq (pc := 3) (tgt := 12) dL_law_3 (by decide) (fun h => absurd h (by decide)) (fun _ => ?_)
  refine G_forget hW st4 rfl ?_
  refine K_LS (pc := 6) (k' := (64000, 540000)) (as := []) mok_L_shots lk_L_156 rfl rfl rfl AO dL_law_6 (C_shots hG) rfl (fun v Y' q => ?_)
  obtain rfl := q
  show G _ _ _ _ _ _ _ (_ :: _) _
  refine G_if_ne (pc := 9) (tgt := 14) dL_law_9 (by decide) (fun _ => ?_) (fun h => absurd h (by decide))
  refine G_forget hW st4 rfl ?_
  exact law_drawn hG hlen kk (by decide) (by decide)
