-- ===== shots =====
theorem sh_end {Γ : GTy} {Z : HS} {g : GN} {A : FT} (h : CI 33 Z (toF shN_27) g A) : G Γ M_L_shots (rm M_L_shots) (Vn Γ M_L_shots (fun r _ => r = some (.int (nI 1)))) (11174, 93590) 1081 [some (.ref 800000)] [.int (nI 2)] Z := by
  refine G_iconst (pc := 1081) (v := nI 2) dL_shots_1081 (by first | rfl | decide) ?_
  refine G_icmp_ne (pc := 1082) (tgt := 1122) dL_shots_1082 (by decide) (fun h => absurd h (by decide)) (fun _ => ?_)
  refine G_aload_n (pc := 1085) dL_shots_1085 rfl ?_
  refine G_iconst (pc := 1086) (v := nI 1) dL_shots_1086 (by first | rfl | decide) ?_
  refine R_V (pc := 1087) (k' := (11175, 93596)) mok_X9_frameOn lk_L_59 (sh_k h.1) rfl rfl rfl rfl (aok0 rfl) dL_shots_1087 (t_frameOn h (t := 1) (by decide)) (by decide) u2_e rfl (fun Y' q => ?_)
  subst q
  refine G_val (w := nI 0) (by decide +kernel) ?_
  refine G_if_ne (pc := 1090) (tgt := 1122) dL_shots_1090 (by decide) (fun h => absurd h (by decide)) (fun _ => ?_)
  refine G_aload_n (pc := 1093) dL_shots_1093 rfl ?_
  refine G_iconst (pc := 1094) (v := nI 1) dL_shots_1094 (by first | rfl | decide) ?_
  refine R_V (pc := 1095) (k' := (11176, 93602)) mok_X9_state lk_L_77 (sh_k h.1) rfl rfl rfl rfl (aok0 rfl) dL_shots_1095 (t_state h (f := 1) (fr_lt h (m := 5) (by decide +kernel) ⟨by decide, by decide⟩)) (by decide) u2_e rfl (fun Y' q => ?_)
  subst q
  refine G_val (w := nI 1) (by decide +kernel) ?_
  refine G_iconst (pc := 1098) (v := nI 1) dL_shots_1098 (by first | rfl | decide) ?_
  refine G_icmp_ne (pc := 1099) (tgt := 1122) dL_shots_1099 (by decide) (fun h => absurd h (by decide)) (fun _ => ?_)
  refine G_aload_n (pc := 1102) dL_shots_1102 rfl ?_
  refine G_iconst (pc := 1103) (v := nI 2) dL_shots_1103 (by first | rfl | decide) ?_
  refine R_V (pc := 1104) (k' := (11177, 93608)) mok_X9_wins lk_L_68 (sh_k h.1) rfl rfl rfl rfl (aok0 rfl) dL_shots_1104 (t_wins h (c := 2) (by decide)) (by decide) u2_e rfl (fun Y' q => ?_)
  subst q
  refine G_val (w := nI 0) (by rw [g16_of h (m := 5) (by decide +kernel) (by decide)]; decide +kernel) ?_
  refine G_if_ne (pc := 1107) (tgt := 1122) dL_shots_1107 (by decide) (fun h => absurd h (by decide)) (fun _ => ?_)
  refine G_aload_n (pc := 1110) dL_shots_1110 rfl ?_
  refine G_iconst (pc := 1111) (v := nI 5) dL_shots_1111 (by first | rfl | decide) ?_
  refine R_S (pc := 1112) (k' := (16477, 137608)) (as := [.ref 800000, .int (nI 5)]) mok_L_refuses lk_L_132 rfl rfl rfl (by exact (fun _ => ⟨rfl, fun r hr => by rw [List.mem_singleton.mp (show r ∈ [800000] from hr), sh_k h.1]; decide, fun _ hr => nomatch hr⟩)) dL_shots_1112 (k_refuses h (m := 5) (by decide +kernel) (by decide)) rfl (fun v Y' q => ?_)
  obtain ⟨rfl, rfl⟩ := q
  show G _ _ _ _ _ _ _ (_ :: _) _
  refine G_if_eq (pc := 1115) (tgt := 1122) dL_shots_1115 (by decide) (fun h => absurd h (by decide)) (fun _ => ?_)
  refine G_iconst (pc := 1118) (v := nI 1) dL_shots_1118 (by first | rfl | decide) ?_
  refine G_goto (pc := 1119) (tgt := 1123) dL_shots_1119 (by decide) ?_
  refine G_zret (pc := 1123) VZ.n dL_shots_1123 rfl (Or.inr rfl) ⟨by decide, by decide⟩ ?_
  exact rfl
theorem C_shots {Γ : GTy} (hG : GS Γ) : Tn Γ M_L_shots [] U0 (fun r _ => r = some (.int (nI 1))) := by
  refine Tn_of' rfl rfl rfl ?_
  show G Γ M_L_shots (rm M_L_shots) (Vn Γ M_L_shots (fun r _ => r = some (.int (nI 1)))) (0, 0) 0 [none] [] U0
  refine G_new (pc := 0) (c := 8) 800000 rfl rfl (by decide) ⟨by decide, by decide⟩ (by decide) cl_L_8 wN_8.1 wN_8.2 ⟨by decide, by decide⟩ dL_shots_0 ?_
  show G _ _ _ _ _ _ _ _ hS_0
  refine G_dup (pc := 3) dL_shots_3 rfl ?_
  refine K_I0v (pc := 4) (k' := (41, 2216)) mok_X9_init lk_L_131 rfl (fun _ => ⟨rfl, (fun _ hr => nomatch hr), fun r hr => by rw [List.mem_singleton.mp (show r ∈ [800000] from hr)]; decide⟩) dL_shots_4 C_hallInit rfl ?_
  refine G_astore_n (pc := 7) dL_shots_7 (by decide) ?_
  have h : CI 0 hS_42 (toF shN_0) g0m (fun _ _ => 0) := CI_frz CI_0 (by decide +kernel) (by decide +kernel)
  show G Γ M_L_shots (rm M_L_shots) _ (41, 2216) 8 [some (.ref 800000)] [] hS_42
  refine sh_0 hG h (fun Z g A h => ?_)
  refine sh_1 hG h (fun Z g A h => ?_)
  refine sh_2 hG h (fun Z g A h => ?_)
  refine sh_3 hG h (fun Z g A h => ?_)
  refine sh_4 hG h (fun Z g A h => ?_)
  refine sh_5 hG h (fun Z g A h => ?_)
  refine sh_6 hG h (fun Z g A h => ?_)
  refine sh_7 hG h (fun Z g A h => ?_)
  refine sh_8 hG h (fun Z g A h => ?_)
  refine sh_9 hG h (fun Z g A h => ?_)
  refine sh_10 hG h (fun Z g A h => ?_)
  refine sh_11 hG h (fun Z g A h => ?_)
  refine sh_12 hG h (fun Z g A h => ?_)
  refine sh_13 hG h (fun Z g A h => ?_)
  refine sh_14 hG h (fun Z g A h => ?_)
  refine sh_15 hG h (fun Z g A h => ?_)
  refine sh_16 hG h (fun Z g A h => ?_)
  refine sh_17 hG h (fun Z g A h => ?_)
  refine sh_18 hG h (fun Z g A h => ?_)
  refine sh_19 hG h (fun Z g A h => ?_)
  refine sh_20 hG h (fun Z g A h => ?_)
  refine sh_21 hG h (fun Z g A h => ?_)
  refine sh_22 hG h (fun Z g A h => ?_)
  refine sh_23 hG h (fun Z g A h => ?_)
  refine sh_24 hG h (fun Z g A h => ?_)
  refine sh_25 hG h (fun Z g A h => ?_)
  refine sh_26 hG h (fun Z g A h => ?_)
  refine sh_27 hG h (fun Z g A h => ?_)
  refine sh_28 hG h (fun Z g A h => ?_)
  refine sh_29 hG h (fun Z g A h => ?_)
  refine sh_30 hG h (fun Z g A h => ?_)
  refine sh_31 hG h (fun Z g A h => ?_)
  refine sh_32 hG h (fun Z g A h => ?_)
  refine sh_33 hG h (fun Z g A h => ?_)
  refine sh_34 hG h (fun Z g A h => ?_)
  refine sh_35 hG h (fun Z g A h => ?_)
  refine sh_36 hG h (fun Z g A h => ?_)
  refine sh_37 hG h (fun Z g A h => ?_)
  refine sh_38 hG h (fun Z g A h => ?_)
  refine sh_39 hG h (fun Z g A h => ?_)
  refine sh_40 hG h (fun Z g A h => ?_)
  refine sh_41 hG h (fun Z g A h => ?_)
  refine sh_42 hG h (fun Z g A h => ?_)
  refine sh_43 hG h (fun Z g A h => ?_)
  exact sh_end h
