-- ===== tables: stretches 80 to 119 =====
theorem tq_80 {Γ : GTy} (hG : GS Γ) {W : WTy} {Z : HS} {g : GN} {A : FT} (h : CI 80 Z (toF tqN_65) g A) (kk : ∀ (Z' : HS) (g' : GN) (A' : FT), CI 81 Z' (toF tqN_66) g' A' → G Γ M_L_tables (rm M_L_tables) W (16483, 138273) 855 [some (.ref 800000), some (.int ((-73))), some (.int (nI 14))] [.int (nI 14)] Z') : G Γ M_L_tables (rm M_L_tables) W (16470, 138167) 888 [some (.ref 800000), some (.int ((-73))), some (.int (nI 13))] [.int (nI 3)] Z := by
  refine G_iconst (pc := 888) (v := nI 3) dL_tables_888 (by first | rfl | decide) ?_
  refine G_icmp_ne (pc := 889) (tgt := 901) dL_tables_889 (by decide) (fun h => absurd h (by decide)) (fun _ => ?_)
  refine G_aload_n (pc := 892) dL_tables_892 rfl ?_
  refine G_iload_n (pc := 893) dL_tables_893 rfl ?_
  refine R_V (pc := 894) (k' := (16471, 138173)) mok_X9_state lk_L_77 (sh_k h.1) rfl rfl rfl rfl (aok0 rfl) dL_tables_894 (t_state h (f := 13) (fr_lt h (m := 14) (by decide +kernel) ⟨by decide, by decide⟩)) (by decide) u2_e rfl (fun Y' q => ?_)
  subst q
  refine G_val (w := nI 1) (by decide +kernel) ?_
  refine G_iconst (pc := 897) (v := nI 1) dL_tables_897 (by first | rfl | decide) ?_
  refine G_icmp_eq (pc := 898) (tgt := 903) dL_tables_898 (by decide) (fun _ => ?_) (fun h => absurd h (by decide))
  refine G_iincN (pc := 903) dL_tables_903 rfl (by decide) ?_
  show G _ _ _ _ _ _ [some (.ref 800000), some (.int ((-73))), some (.int (nI 14))] [] _
  refine G_goto (pc := 906) (tgt := 836) dL_tables_906 (by decide) ?_
  refine G_iload_n (pc := 836) dL_tables_836 rfl ?_
  refine G_bipush (pc := 837) (v := nI 21) dL_tables_837 (by first | rfl | decide) ?_
  refine G_icmp_ge (pc := 839) (tgt := 909) dL_tables_839 (by decide) (fun h => absurd h (by decide)) (fun _ => ?_)
  refine G_aload_n (pc := 842) dL_tables_842 rfl ?_
  refine G_bipush (pc := 843) (v := nI 6) dL_tables_843 (by first | rfl | decide) ?_
  refine G_iconst (pc := 845) (v := nI 0) dL_tables_845 (by first | rfl | decide) ?_
  refine G_iload_n (pc := 846) dL_tables_846 rfl ?_
  refine G_bipush (pc := 847) (v := nI 7) dL_tables_847 (by first | rfl | decide) ?_
  refine G_iremN (pc := 849) (by omega) (by omega) (by omega) dL_tables_849 ?_
  refine G_val (w := nI 0) (by decide) ?_
  refine G_bipush (pc := 850) (v := nI 7) dL_tables_850 (by first | rfl | decide) ?_
  refine K_SW5 (pc := 852) (k' := (16483, 138273)) mok_L_act lk_L_122 rfl (by exact (fun _ => ⟨rfl, fun r hr => by rw [List.mem_singleton.mp (show r ∈ [800000] from hr), sh_k h.1]; decide, fun _ hr => nomatch hr⟩)) dL_tables_852 (act_6 (QV' := QA 80 _ _ (nI 14)) (x := nI 0) (y := nI 0) (z := nI 7) h.1 (k_begin hG h (by decide) (t := 0) (a := 0) (c := 7) (z := nI 1) (m := 14) (by decide) (by decide) (by decide) (Or.inr rfl) (by decide +kernel) (by decide)) es_5 (fun Z' _ q => ⟨congrArg (fun t => some (Value.int t)) (by decide +kernel), q⟩) (fun i E Z' q1 q2 _ => no_x (by decide) (by decide +kernel) q1 q2)) rfl (fun v Y' q => ?_) (fun E Y' q => q.elim)
  obtain ⟨rfl, -, g', A', h'⟩ := q
  show G _ _ _ _ _ _ _ (_ :: _) _
  exact kk _ _ _ (CI_frz h' (by decide +kernel) (by decide +kernel))
theorem tq_81 {Γ : GTy} (hG : GS Γ) {W : WTy} {Z : HS} {g : GN} {A : FT} (h : CI 81 Z (toF tqN_66) g A) (kk : ∀ (Z' : HS) (g' : GN) (A' : FT), CI 82 Z' (toF tqN_67) g' A' → G Γ M_L_tables (rm M_L_tables) W (16485, 138285) 880 [some (.ref 800000), some (.int ((-73))), some (.int (nI 14))] [.int (nI 0)] Z') : G Γ M_L_tables (rm M_L_tables) W (16483, 138273) 855 [some (.ref 800000), some (.int ((-73))), some (.int (nI 14))] [.int (nI 14)] Z := by
  refine G_iload_n (pc := 855) dL_tables_855 rfl ?_
  refine G_bipush (pc := 856) (v := nI 20) dL_tables_856 (by first | rfl | decide) ?_
  refine G_icmp_ge (pc := 858) (tgt := 865) dL_tables_858 (by decide) (fun h => absurd h (by decide)) (fun _ => ?_)
  refine G_iload_n (pc := 861) dL_tables_861 rfl ?_
  refine G_goto (pc := 862) (tgt := 866) dL_tables_862 (by decide) ?_
  refine G_icmp_ne (pc := 866) (tgt := 901) dL_tables_866 (by decide) (fun h => absurd h (by decide)) (fun _ => ?_)
  refine G_iload_n (pc := 869) dL_tables_869 rfl ?_
  refine G_bipush (pc := 870) (v := nI 20) dL_tables_870 (by first | rfl | decide) ?_
  refine G_icmp_ge (pc := 872) (tgt := 903) dL_tables_872 (by decide) (fun h => absurd h (by decide)) (fun _ => ?_)
  refine G_aload_n (pc := 875) dL_tables_875 rfl ?_
  refine G_iconst (pc := 876) (v := nI 0) dL_tables_876 (by first | rfl | decide) ?_
  refine R_V (pc := 877) (k' := (16485, 138285)) mok_X9_tear lk_L_20 (sh_k h.1) rfl rfl rfl rfl (aok0 rfl) dL_tables_877 (k_tear h (by decide) (t := 0) (r := 0) (k := 15) (by decide) (by decide +kernel) (by decide +kernel) ⟨by decide, by decide⟩) (by decide) (by decide +kernel) rfl (fun Y' q => ?_)
  obtain ⟨-, g', A', h'⟩ := q
  refine G_val (w := nI 0) (by decide +kernel) ?_
  exact kk _ _ _ (CI_frz h' (by decide +kernel) (by decide +kernel))
theorem tq_82 {Γ : GTy} (hG : GS Γ) {W : WTy} {Z : HS} {g : GN} {A : FT} (h : CI 82 Z (toF tqN_67) g A) (kk : ∀ (Z' : HS) (g' : GN) (A' : FT), CI 83 Z' (toF tqN_68) g' A' → G Γ M_L_tables (rm M_L_tables) W (16487, 138297) 888 [some (.ref 800000), some (.int ((-73))), some (.int (nI 14))] [.int (nI 3)] Z') : G Γ M_L_tables (rm M_L_tables) W (16485, 138285) 880 [some (.ref 800000), some (.int ((-73))), some (.int (nI 14))] [.int (nI 0)] Z := by
  refine G_if_ne (pc := 880) (tgt := 901) dL_tables_880 (by decide) (fun h => absurd h (by decide)) (fun _ => ?_)
  refine G_aload_n (pc := 883) dL_tables_883 rfl ?_
  refine G_iconst (pc := 884) (v := nI 0) dL_tables_884 (by first | rfl | decide) ?_
  refine R_V (pc := 885) (k' := (16487, 138297)) mok_X9_mend lk_L_23 (sh_k h.1) rfl rfl rfl rfl (aok0 rfl) dL_tables_885 (m_mend h (by decide) (t := 0) (by decide)) (by decide) (by decide +kernel) rfl (fun Y' q => ?_)
  obtain ⟨-, g', A', h'⟩ := q
  refine G_val (w := nI 3) (by decide +kernel) ?_
  exact kk _ _ _ (CI_frz h' (by decide +kernel) (by decide +kernel))
theorem tq_83 {Γ : GTy} (hG : GS Γ) {W : WTy} {Z : HS} {g : GN} {A : FT} (h : CI 83 Z (toF tqN_68) g A) (kk : ∀ (Z' : HS) (g' : GN) (A' : FT), CI 84 Z' (toF tqN_69) g' A' → G Γ M_L_tables (rm M_L_tables) W (16500, 138403) 855 [some (.ref 800000), some (.int ((-73))), some (.int (nI 15))] [.int (nI 15)] Z') : G Γ M_L_tables (rm M_L_tables) W (16487, 138297) 888 [some (.ref 800000), some (.int ((-73))), some (.int (nI 14))] [.int (nI 3)] Z := by
  refine G_iconst (pc := 888) (v := nI 3) dL_tables_888 (by first | rfl | decide) ?_
  refine G_icmp_ne (pc := 889) (tgt := 901) dL_tables_889 (by decide) (fun h => absurd h (by decide)) (fun _ => ?_)
  refine G_aload_n (pc := 892) dL_tables_892 rfl ?_
  refine G_iload_n (pc := 893) dL_tables_893 rfl ?_
  refine R_V (pc := 894) (k' := (16488, 138303)) mok_X9_state lk_L_77 (sh_k h.1) rfl rfl rfl rfl (aok0 rfl) dL_tables_894 (t_state h (f := 14) (fr_lt h (m := 15) (by decide +kernel) ⟨by decide, by decide⟩)) (by decide) u2_e rfl (fun Y' q => ?_)
  subst q
  refine G_val (w := nI 1) (by decide +kernel) ?_
  refine G_iconst (pc := 897) (v := nI 1) dL_tables_897 (by first | rfl | decide) ?_
  refine G_icmp_eq (pc := 898) (tgt := 903) dL_tables_898 (by decide) (fun _ => ?_) (fun h => absurd h (by decide))
  refine G_iincN (pc := 903) dL_tables_903 rfl (by decide) ?_
  show G _ _ _ _ _ _ [some (.ref 800000), some (.int ((-73))), some (.int (nI 15))] [] _
  refine G_goto (pc := 906) (tgt := 836) dL_tables_906 (by decide) ?_
  refine G_iload_n (pc := 836) dL_tables_836 rfl ?_
  refine G_bipush (pc := 837) (v := nI 21) dL_tables_837 (by first | rfl | decide) ?_
  refine G_icmp_ge (pc := 839) (tgt := 909) dL_tables_839 (by decide) (fun h => absurd h (by decide)) (fun _ => ?_)
  refine G_aload_n (pc := 842) dL_tables_842 rfl ?_
  refine G_bipush (pc := 843) (v := nI 6) dL_tables_843 (by first | rfl | decide) ?_
  refine G_iconst (pc := 845) (v := nI 0) dL_tables_845 (by first | rfl | decide) ?_
  refine G_iload_n (pc := 846) dL_tables_846 rfl ?_
  refine G_bipush (pc := 847) (v := nI 7) dL_tables_847 (by first | rfl | decide) ?_
  refine G_iremN (pc := 849) (by omega) (by omega) (by omega) dL_tables_849 ?_
  refine G_val (w := nI 1) (by decide) ?_
  refine G_bipush (pc := 850) (v := nI 7) dL_tables_850 (by first | rfl | decide) ?_
  refine K_SW5 (pc := 852) (k' := (16500, 138403)) mok_L_act lk_L_122 rfl (by exact (fun _ => ⟨rfl, fun r hr => by rw [List.mem_singleton.mp (show r ∈ [800000] from hr), sh_k h.1]; decide, fun _ hr => nomatch hr⟩)) dL_tables_852 (act_6 (QV' := QA 83 _ _ (nI 15)) (x := nI 0) (y := nI 1) (z := nI 7) h.1 (k_begin hG h (by decide) (t := 0) (a := 1) (c := 7) (z := nI 1) (m := 15) (by decide) (by decide) (by decide) (Or.inr rfl) (by decide +kernel) (by decide)) es_5 (fun Z' _ q => ⟨congrArg (fun t => some (Value.int t)) (by decide +kernel), q⟩) (fun i E Z' q1 q2 _ => no_x (by decide) (by decide +kernel) q1 q2)) rfl (fun v Y' q => ?_) (fun E Y' q => q.elim)
  obtain ⟨rfl, -, g', A', h'⟩ := q
  show G _ _ _ _ _ _ _ (_ :: _) _
  exact kk _ _ _ (CI_frz h' (by decide +kernel) (by decide +kernel))
theorem tq_84 {Γ : GTy} (hG : GS Γ) {W : WTy} {Z : HS} {g : GN} {A : FT} (h : CI 84 Z (toF tqN_69) g A) (kk : ∀ (Z' : HS) (g' : GN) (A' : FT), CI 85 Z' (toF tqN_70) g' A' → G Γ M_L_tables (rm M_L_tables) W (16502, 138415) 880 [some (.ref 800000), some (.int ((-73))), some (.int (nI 15))] [.int (nI 0)] Z') : G Γ M_L_tables (rm M_L_tables) W (16500, 138403) 855 [some (.ref 800000), some (.int ((-73))), some (.int (nI 15))] [.int (nI 15)] Z := by
  refine G_iload_n (pc := 855) dL_tables_855 rfl ?_
  refine G_bipush (pc := 856) (v := nI 20) dL_tables_856 (by first | rfl | decide) ?_
  refine G_icmp_ge (pc := 858) (tgt := 865) dL_tables_858 (by decide) (fun h => absurd h (by decide)) (fun _ => ?_)
  refine G_iload_n (pc := 861) dL_tables_861 rfl ?_
  refine G_goto (pc := 862) (tgt := 866) dL_tables_862 (by decide) ?_
  refine G_icmp_ne (pc := 866) (tgt := 901) dL_tables_866 (by decide) (fun h => absurd h (by decide)) (fun _ => ?_)
  refine G_iload_n (pc := 869) dL_tables_869 rfl ?_
  refine G_bipush (pc := 870) (v := nI 20) dL_tables_870 (by first | rfl | decide) ?_
  refine G_icmp_ge (pc := 872) (tgt := 903) dL_tables_872 (by decide) (fun h => absurd h (by decide)) (fun _ => ?_)
  refine G_aload_n (pc := 875) dL_tables_875 rfl ?_
  refine G_iconst (pc := 876) (v := nI 0) dL_tables_876 (by first | rfl | decide) ?_
  refine R_V (pc := 877) (k' := (16502, 138415)) mok_X9_tear lk_L_20 (sh_k h.1) rfl rfl rfl rfl (aok0 rfl) dL_tables_877 (k_tear h (by decide) (t := 0) (r := 0) (k := 16) (by decide) (by decide +kernel) (by decide +kernel) ⟨by decide, by decide⟩) (by decide) (by decide +kernel) rfl (fun Y' q => ?_)
  obtain ⟨-, g', A', h'⟩ := q
  refine G_val (w := nI 0) (by decide +kernel) ?_
  exact kk _ _ _ (CI_frz h' (by decide +kernel) (by decide +kernel))
theorem tq_85 {Γ : GTy} (hG : GS Γ) {W : WTy} {Z : HS} {g : GN} {A : FT} (h : CI 85 Z (toF tqN_70) g A) (kk : ∀ (Z' : HS) (g' : GN) (A' : FT), CI 86 Z' (toF tqN_71) g' A' → G Γ M_L_tables (rm M_L_tables) W (16504, 138427) 888 [some (.ref 800000), some (.int ((-73))), some (.int (nI 15))] [.int (nI 3)] Z') : G Γ M_L_tables (rm M_L_tables) W (16502, 138415) 880 [some (.ref 800000), some (.int ((-73))), some (.int (nI 15))] [.int (nI 0)] Z := by
  refine G_if_ne (pc := 880) (tgt := 901) dL_tables_880 (by decide) (fun h => absurd h (by decide)) (fun _ => ?_)
  refine G_aload_n (pc := 883) dL_tables_883 rfl ?_
  refine G_iconst (pc := 884) (v := nI 0) dL_tables_884 (by first | rfl | decide) ?_
  refine R_V (pc := 885) (k' := (16504, 138427)) mok_X9_mend lk_L_23 (sh_k h.1) rfl rfl rfl rfl (aok0 rfl) dL_tables_885 (m_mend h (by decide) (t := 0) (by decide)) (by decide) (by decide +kernel) rfl (fun Y' q => ?_)
  obtain ⟨-, g', A', h'⟩ := q
  refine G_val (w := nI 3) (by decide +kernel) ?_
  exact kk _ _ _ (CI_frz h' (by decide +kernel) (by decide +kernel))
theorem tq_86 {Γ : GTy} (hG : GS Γ) {W : WTy} {Z : HS} {g : GN} {A : FT} (h : CI 86 Z (toF tqN_71) g A) (kk : ∀ (Z' : HS) (g' : GN) (A' : FT), CI 87 Z' (toF tqN_72) g' A' → G Γ M_L_tables (rm M_L_tables) W (16517, 138533) 855 [some (.ref 800000), some (.int ((-73))), some (.int (nI 16))] [.int (nI 16)] Z') : G Γ M_L_tables (rm M_L_tables) W (16504, 138427) 888 [some (.ref 800000), some (.int ((-73))), some (.int (nI 15))] [.int (nI 3)] Z := by
  refine G_iconst (pc := 888) (v := nI 3) dL_tables_888 (by first | rfl | decide) ?_
  refine G_icmp_ne (pc := 889) (tgt := 901) dL_tables_889 (by decide) (fun h => absurd h (by decide)) (fun _ => ?_)
  refine G_aload_n (pc := 892) dL_tables_892 rfl ?_
  refine G_iload_n (pc := 893) dL_tables_893 rfl ?_
  refine R_V (pc := 894) (k' := (16505, 138433)) mok_X9_state lk_L_77 (sh_k h.1) rfl rfl rfl rfl (aok0 rfl) dL_tables_894 (t_state h (f := 15) (fr_lt h (m := 16) (by decide +kernel) ⟨by decide, by decide⟩)) (by decide) u2_e rfl (fun Y' q => ?_)
  subst q
  refine G_val (w := nI 1) (by decide +kernel) ?_
  refine G_iconst (pc := 897) (v := nI 1) dL_tables_897 (by first | rfl | decide) ?_
  refine G_icmp_eq (pc := 898) (tgt := 903) dL_tables_898 (by decide) (fun _ => ?_) (fun h => absurd h (by decide))
  refine G_iincN (pc := 903) dL_tables_903 rfl (by decide) ?_
  show G _ _ _ _ _ _ [some (.ref 800000), some (.int ((-73))), some (.int (nI 16))] [] _
  refine G_goto (pc := 906) (tgt := 836) dL_tables_906 (by decide) ?_
  refine G_iload_n (pc := 836) dL_tables_836 rfl ?_
  refine G_bipush (pc := 837) (v := nI 21) dL_tables_837 (by first | rfl | decide) ?_
  refine G_icmp_ge (pc := 839) (tgt := 909) dL_tables_839 (by decide) (fun h => absurd h (by decide)) (fun _ => ?_)
  refine G_aload_n (pc := 842) dL_tables_842 rfl ?_
  refine G_bipush (pc := 843) (v := nI 6) dL_tables_843 (by first | rfl | decide) ?_
  refine G_iconst (pc := 845) (v := nI 0) dL_tables_845 (by first | rfl | decide) ?_
  refine G_iload_n (pc := 846) dL_tables_846 rfl ?_
  refine G_bipush (pc := 847) (v := nI 7) dL_tables_847 (by first | rfl | decide) ?_
  refine G_iremN (pc := 849) (by omega) (by omega) (by omega) dL_tables_849 ?_
  refine G_val (w := nI 2) (by decide) ?_
  refine G_bipush (pc := 850) (v := nI 7) dL_tables_850 (by first | rfl | decide) ?_
  refine K_SW5 (pc := 852) (k' := (16517, 138533)) mok_L_act lk_L_122 rfl (by exact (fun _ => ⟨rfl, fun r hr => by rw [List.mem_singleton.mp (show r ∈ [800000] from hr), sh_k h.1]; decide, fun _ hr => nomatch hr⟩)) dL_tables_852 (act_6 (QV' := QA 86 _ _ (nI 16)) (x := nI 0) (y := nI 2) (z := nI 7) h.1 (k_begin hG h (by decide) (t := 0) (a := 2) (c := 7) (z := nI 1) (m := 16) (by decide) (by decide) (by decide) (Or.inr rfl) (by decide +kernel) (by decide)) es_5 (fun Z' _ q => ⟨congrArg (fun t => some (Value.int t)) (by decide +kernel), q⟩) (fun i E Z' q1 q2 _ => no_x (by decide) (by decide +kernel) q1 q2)) rfl (fun v Y' q => ?_) (fun E Y' q => q.elim)
  obtain ⟨rfl, -, g', A', h'⟩ := q
  show G _ _ _ _ _ _ _ (_ :: _) _
  exact kk _ _ _ (CI_frz h' (by decide +kernel) (by decide +kernel))
theorem tq_87 {Γ : GTy} (hG : GS Γ) {W : WTy} {Z : HS} {g : GN} {A : FT} (h : CI 87 Z (toF tqN_72) g A) (kk : ∀ (Z' : HS) (g' : GN) (A' : FT), CI 88 Z' (toF tqN_73) g' A' → G Γ M_L_tables (rm M_L_tables) W (16519, 138545) 880 [some (.ref 800000), some (.int ((-73))), some (.int (nI 16))] [.int (nI 0)] Z') : G Γ M_L_tables (rm M_L_tables) W (16517, 138533) 855 [some (.ref 800000), some (.int ((-73))), some (.int (nI 16))] [.int (nI 16)] Z := by
  refine G_iload_n (pc := 855) dL_tables_855 rfl ?_
  refine G_bipush (pc := 856) (v := nI 20) dL_tables_856 (by first | rfl | decide) ?_
  refine G_icmp_ge (pc := 858) (tgt := 865) dL_tables_858 (by decide) (fun h => absurd h (by decide)) (fun _ => ?_)
  refine G_iload_n (pc := 861) dL_tables_861 rfl ?_
  refine G_goto (pc := 862) (tgt := 866) dL_tables_862 (by decide) ?_
  refine G_icmp_ne (pc := 866) (tgt := 901) dL_tables_866 (by decide) (fun h => absurd h (by decide)) (fun _ => ?_)
  refine G_iload_n (pc := 869) dL_tables_869 rfl ?_
  refine G_bipush (pc := 870) (v := nI 20) dL_tables_870 (by first | rfl | decide) ?_
  refine G_icmp_ge (pc := 872) (tgt := 903) dL_tables_872 (by decide) (fun h => absurd h (by decide)) (fun _ => ?_)
  refine G_aload_n (pc := 875) dL_tables_875 rfl ?_
  refine G_iconst (pc := 876) (v := nI 0) dL_tables_876 (by first | rfl | decide) ?_
  refine R_V (pc := 877) (k' := (16519, 138545)) mok_X9_tear lk_L_20 (sh_k h.1) rfl rfl rfl rfl (aok0 rfl) dL_tables_877 (k_tear h (by decide) (t := 0) (r := 0) (k := 17) (by decide) (by decide +kernel) (by decide +kernel) ⟨by decide, by decide⟩) (by decide) (by decide +kernel) rfl (fun Y' q => ?_)
  obtain ⟨-, g', A', h'⟩ := q
  refine G_val (w := nI 0) (by decide +kernel) ?_
  exact kk _ _ _ (CI_frz h' (by decide +kernel) (by decide +kernel))
theorem tq_88 {Γ : GTy} (hG : GS Γ) {W : WTy} {Z : HS} {g : GN} {A : FT} (h : CI 88 Z (toF tqN_73) g A) (kk : ∀ (Z' : HS) (g' : GN) (A' : FT), CI 89 Z' (toF tqN_74) g' A' → G Γ M_L_tables (rm M_L_tables) W (16521, 138557) 888 [some (.ref 800000), some (.int ((-73))), some (.int (nI 16))] [.int (nI 3)] Z') : G Γ M_L_tables (rm M_L_tables) W (16519, 138545) 880 [some (.ref 800000), some (.int ((-73))), some (.int (nI 16))] [.int (nI 0)] Z := by
  refine G_if_ne (pc := 880) (tgt := 901) dL_tables_880 (by decide) (fun h => absurd h (by decide)) (fun _ => ?_)
  refine G_aload_n (pc := 883) dL_tables_883 rfl ?_
  refine G_iconst (pc := 884) (v := nI 0) dL_tables_884 (by first | rfl | decide) ?_
  refine R_V (pc := 885) (k' := (16521, 138557)) mok_X9_mend lk_L_23 (sh_k h.1) rfl rfl rfl rfl (aok0 rfl) dL_tables_885 (m_mend h (by decide) (t := 0) (by decide)) (by decide) (by decide +kernel) rfl (fun Y' q => ?_)
  obtain ⟨-, g', A', h'⟩ := q
  refine G_val (w := nI 3) (by decide +kernel) ?_
  exact kk _ _ _ (CI_frz h' (by decide +kernel) (by decide +kernel))
theorem tq_89 {Γ : GTy} (hG : GS Γ) {W : WTy} {Z : HS} {g : GN} {A : FT} (h : CI 89 Z (toF tqN_74) g A) (kk : ∀ (Z' : HS) (g' : GN) (A' : FT), CI 90 Z' (toF tqN_75) g' A' → G Γ M_L_tables (rm M_L_tables) W (16534, 138663) 855 [some (.ref 800000), some (.int ((-73))), some (.int (nI 17))] [.int (nI 17)] Z') : G Γ M_L_tables (rm M_L_tables) W (16521, 138557) 888 [some (.ref 800000), some (.int ((-73))), some (.int (nI 16))] [.int (nI 3)] Z := by
  refine G_iconst (pc := 888) (v := nI 3) dL_tables_888 (by first | rfl | decide) ?_
  refine G_icmp_ne (pc := 889) (tgt := 901) dL_tables_889 (by decide) (fun h => absurd h (by decide)) (fun _ => ?_)
  refine G_aload_n (pc := 892) dL_tables_892 rfl ?_
  refine G_iload_n (pc := 893) dL_tables_893 rfl ?_
  refine R_V (pc := 894) (k' := (16522, 138563)) mok_X9_state lk_L_77 (sh_k h.1) rfl rfl rfl rfl (aok0 rfl) dL_tables_894 (t_state h (f := 16) (fr_lt h (m := 17) (by decide +kernel) ⟨by decide, by decide⟩)) (by decide) u2_e rfl (fun Y' q => ?_)
  subst q
  refine G_val (w := nI 1) (by decide +kernel) ?_
  refine G_iconst (pc := 897) (v := nI 1) dL_tables_897 (by first | rfl | decide) ?_
  refine G_icmp_eq (pc := 898) (tgt := 903) dL_tables_898 (by decide) (fun _ => ?_) (fun h => absurd h (by decide))
  refine G_iincN (pc := 903) dL_tables_903 rfl (by decide) ?_
  show G _ _ _ _ _ _ [some (.ref 800000), some (.int ((-73))), some (.int (nI 17))] [] _
  refine G_goto (pc := 906) (tgt := 836) dL_tables_906 (by decide) ?_
  refine G_iload_n (pc := 836) dL_tables_836 rfl ?_
  refine G_bipush (pc := 837) (v := nI 21) dL_tables_837 (by first | rfl | decide) ?_
  refine G_icmp_ge (pc := 839) (tgt := 909) dL_tables_839 (by decide) (fun h => absurd h (by decide)) (fun _ => ?_)
  refine G_aload_n (pc := 842) dL_tables_842 rfl ?_
  refine G_bipush (pc := 843) (v := nI 6) dL_tables_843 (by first | rfl | decide) ?_
  refine G_iconst (pc := 845) (v := nI 0) dL_tables_845 (by first | rfl | decide) ?_
  refine G_iload_n (pc := 846) dL_tables_846 rfl ?_
  refine G_bipush (pc := 847) (v := nI 7) dL_tables_847 (by first | rfl | decide) ?_
  refine G_iremN (pc := 849) (by omega) (by omega) (by omega) dL_tables_849 ?_
  refine G_val (w := nI 3) (by decide) ?_
  refine G_bipush (pc := 850) (v := nI 7) dL_tables_850 (by first | rfl | decide) ?_
  refine K_SW5 (pc := 852) (k' := (16534, 138663)) mok_L_act lk_L_122 rfl (by exact (fun _ => ⟨rfl, fun r hr => by rw [List.mem_singleton.mp (show r ∈ [800000] from hr), sh_k h.1]; decide, fun _ hr => nomatch hr⟩)) dL_tables_852 (act_6 (QV' := QA 89 _ _ (nI 17)) (x := nI 0) (y := nI 3) (z := nI 7) h.1 (k_begin hG h (by decide) (t := 0) (a := 3) (c := 7) (z := nI 1) (m := 17) (by decide) (by decide) (by decide) (Or.inr rfl) (by decide +kernel) (by decide)) es_5 (fun Z' _ q => ⟨congrArg (fun t => some (Value.int t)) (by decide +kernel), q⟩) (fun i E Z' q1 q2 _ => no_x (by decide) (by decide +kernel) q1 q2)) rfl (fun v Y' q => ?_) (fun E Y' q => q.elim)
  obtain ⟨rfl, -, g', A', h'⟩ := q
  show G _ _ _ _ _ _ _ (_ :: _) _
  exact kk _ _ _ (CI_frz h' (by decide +kernel) (by decide +kernel))
theorem tq_90 {Γ : GTy} (hG : GS Γ) {W : WTy} {Z : HS} {g : GN} {A : FT} (h : CI 90 Z (toF tqN_75) g A) (kk : ∀ (Z' : HS) (g' : GN) (A' : FT), CI 91 Z' (toF tqN_76) g' A' → G Γ M_L_tables (rm M_L_tables) W (16536, 138675) 880 [some (.ref 800000), some (.int ((-73))), some (.int (nI 17))] [.int (nI 0)] Z') : G Γ M_L_tables (rm M_L_tables) W (16534, 138663) 855 [some (.ref 800000), some (.int ((-73))), some (.int (nI 17))] [.int (nI 17)] Z := by
  refine G_iload_n (pc := 855) dL_tables_855 rfl ?_
  refine G_bipush (pc := 856) (v := nI 20) dL_tables_856 (by first | rfl | decide) ?_
  refine G_icmp_ge (pc := 858) (tgt := 865) dL_tables_858 (by decide) (fun h => absurd h (by decide)) (fun _ => ?_)
  refine G_iload_n (pc := 861) dL_tables_861 rfl ?_
  refine G_goto (pc := 862) (tgt := 866) dL_tables_862 (by decide) ?_
  refine G_icmp_ne (pc := 866) (tgt := 901) dL_tables_866 (by decide) (fun h => absurd h (by decide)) (fun _ => ?_)
  refine G_iload_n (pc := 869) dL_tables_869 rfl ?_
  refine G_bipush (pc := 870) (v := nI 20) dL_tables_870 (by first | rfl | decide) ?_
  refine G_icmp_ge (pc := 872) (tgt := 903) dL_tables_872 (by decide) (fun h => absurd h (by decide)) (fun _ => ?_)
  refine G_aload_n (pc := 875) dL_tables_875 rfl ?_
  refine G_iconst (pc := 876) (v := nI 0) dL_tables_876 (by first | rfl | decide) ?_
  refine R_V (pc := 877) (k' := (16536, 138675)) mok_X9_tear lk_L_20 (sh_k h.1) rfl rfl rfl rfl (aok0 rfl) dL_tables_877 (k_tear h (by decide) (t := 0) (r := 0) (k := 18) (by decide) (by decide +kernel) (by decide +kernel) ⟨by decide, by decide⟩) (by decide) (by decide +kernel) rfl (fun Y' q => ?_)
  obtain ⟨-, g', A', h'⟩ := q
  refine G_val (w := nI 0) (by decide +kernel) ?_
  exact kk _ _ _ (CI_frz h' (by decide +kernel) (by decide +kernel))
theorem tq_91 {Γ : GTy} (hG : GS Γ) {W : WTy} {Z : HS} {g : GN} {A : FT} (h : CI 91 Z (toF tqN_76) g A) (kk : ∀ (Z' : HS) (g' : GN) (A' : FT), CI 92 Z' (toF tqN_77) g' A' → G Γ M_L_tables (rm M_L_tables) W (16538, 138687) 888 [some (.ref 800000), some (.int ((-73))), some (.int (nI 17))] [.int (nI 3)] Z') : G Γ M_L_tables (rm M_L_tables) W (16536, 138675) 880 [some (.ref 800000), some (.int ((-73))), some (.int (nI 17))] [.int (nI 0)] Z := by
  refine G_if_ne (pc := 880) (tgt := 901) dL_tables_880 (by decide) (fun h => absurd h (by decide)) (fun _ => ?_)
  refine G_aload_n (pc := 883) dL_tables_883 rfl ?_
  refine G_iconst (pc := 884) (v := nI 0) dL_tables_884 (by first | rfl | decide) ?_
  refine R_V (pc := 885) (k' := (16538, 138687)) mok_X9_mend lk_L_23 (sh_k h.1) rfl rfl rfl rfl (aok0 rfl) dL_tables_885 (m_mend h (by decide) (t := 0) (by decide)) (by decide) (by decide +kernel) rfl (fun Y' q => ?_)
  obtain ⟨-, g', A', h'⟩ := q
  refine G_val (w := nI 3) (by decide +kernel) ?_
  exact kk _ _ _ (CI_frz h' (by decide +kernel) (by decide +kernel))
theorem tq_92 {Γ : GTy} (hG : GS Γ) {W : WTy} {Z : HS} {g : GN} {A : FT} (h : CI 92 Z (toF tqN_77) g A) (kk : ∀ (Z' : HS) (g' : GN) (A' : FT), CI 93 Z' (toF tqN_78) g' A' → G Γ M_L_tables (rm M_L_tables) W (16551, 138793) 855 [some (.ref 800000), some (.int ((-73))), some (.int (nI 18))] [.int (nI 18)] Z') : G Γ M_L_tables (rm M_L_tables) W (16538, 138687) 888 [some (.ref 800000), some (.int ((-73))), some (.int (nI 17))] [.int (nI 3)] Z := by
  refine G_iconst (pc := 888) (v := nI 3) dL_tables_888 (by first | rfl | decide) ?_
  refine G_icmp_ne (pc := 889) (tgt := 901) dL_tables_889 (by decide) (fun h => absurd h (by decide)) (fun _ => ?_)
  refine G_aload_n (pc := 892) dL_tables_892 rfl ?_
  refine G_iload_n (pc := 893) dL_tables_893 rfl ?_
  refine R_V (pc := 894) (k' := (16539, 138693)) mok_X9_state lk_L_77 (sh_k h.1) rfl rfl rfl rfl (aok0 rfl) dL_tables_894 (t_state h (f := 17) (fr_lt h (m := 18) (by decide +kernel) ⟨by decide, by decide⟩)) (by decide) u2_e rfl (fun Y' q => ?_)
  subst q
  refine G_val (w := nI 1) (by decide +kernel) ?_
  refine G_iconst (pc := 897) (v := nI 1) dL_tables_897 (by first | rfl | decide) ?_
  refine G_icmp_eq (pc := 898) (tgt := 903) dL_tables_898 (by decide) (fun _ => ?_) (fun h => absurd h (by decide))
  refine G_iincN (pc := 903) dL_tables_903 rfl (by decide) ?_
  show G _ _ _ _ _ _ [some (.ref 800000), some (.int ((-73))), some (.int (nI 18))] [] _
  refine G_goto (pc := 906) (tgt := 836) dL_tables_906 (by decide) ?_
  refine G_iload_n (pc := 836) dL_tables_836 rfl ?_
  refine G_bipush (pc := 837) (v := nI 21) dL_tables_837 (by first | rfl | decide) ?_
  refine G_icmp_ge (pc := 839) (tgt := 909) dL_tables_839 (by decide) (fun h => absurd h (by decide)) (fun _ => ?_)
  refine G_aload_n (pc := 842) dL_tables_842 rfl ?_
  refine G_bipush (pc := 843) (v := nI 6) dL_tables_843 (by first | rfl | decide) ?_
  refine G_iconst (pc := 845) (v := nI 0) dL_tables_845 (by first | rfl | decide) ?_
  refine G_iload_n (pc := 846) dL_tables_846 rfl ?_
  refine G_bipush (pc := 847) (v := nI 7) dL_tables_847 (by first | rfl | decide) ?_
  refine G_iremN (pc := 849) (by omega) (by omega) (by omega) dL_tables_849 ?_
  refine G_val (w := nI 4) (by decide) ?_
  refine G_bipush (pc := 850) (v := nI 7) dL_tables_850 (by first | rfl | decide) ?_
  refine K_SW5 (pc := 852) (k' := (16551, 138793)) mok_L_act lk_L_122 rfl (by exact (fun _ => ⟨rfl, fun r hr => by rw [List.mem_singleton.mp (show r ∈ [800000] from hr), sh_k h.1]; decide, fun _ hr => nomatch hr⟩)) dL_tables_852 (act_6 (QV' := QA 92 _ _ (nI 18)) (x := nI 0) (y := nI 4) (z := nI 7) h.1 (k_begin hG h (by decide) (t := 0) (a := 4) (c := 7) (z := nI 1) (m := 18) (by decide) (by decide) (by decide) (Or.inr rfl) (by decide +kernel) (by decide)) es_5 (fun Z' _ q => ⟨congrArg (fun t => some (Value.int t)) (by decide +kernel), q⟩) (fun i E Z' q1 q2 _ => no_x (by decide) (by decide +kernel) q1 q2)) rfl (fun v Y' q => ?_) (fun E Y' q => q.elim)
  obtain ⟨rfl, -, g', A', h'⟩ := q
  show G _ _ _ _ _ _ _ (_ :: _) _
  exact kk _ _ _ (CI_frz h' (by decide +kernel) (by decide +kernel))
theorem tq_93 {Γ : GTy} (hG : GS Γ) {W : WTy} {Z : HS} {g : GN} {A : FT} (h : CI 93 Z (toF tqN_78) g A) (kk : ∀ (Z' : HS) (g' : GN) (A' : FT), CI 94 Z' (toF tqN_79) g' A' → G Γ M_L_tables (rm M_L_tables) W (16553, 138805) 880 [some (.ref 800000), some (.int ((-73))), some (.int (nI 18))] [.int (nI 0)] Z') : G Γ M_L_tables (rm M_L_tables) W (16551, 138793) 855 [some (.ref 800000), some (.int ((-73))), some (.int (nI 18))] [.int (nI 18)] Z := by
  refine G_iload_n (pc := 855) dL_tables_855 rfl ?_
  refine G_bipush (pc := 856) (v := nI 20) dL_tables_856 (by first | rfl | decide) ?_
  refine G_icmp_ge (pc := 858) (tgt := 865) dL_tables_858 (by decide) (fun h => absurd h (by decide)) (fun _ => ?_)
  refine G_iload_n (pc := 861) dL_tables_861 rfl ?_
  refine G_goto (pc := 862) (tgt := 866) dL_tables_862 (by decide) ?_
  refine G_icmp_ne (pc := 866) (tgt := 901) dL_tables_866 (by decide) (fun h => absurd h (by decide)) (fun _ => ?_)
  refine G_iload_n (pc := 869) dL_tables_869 rfl ?_
  refine G_bipush (pc := 870) (v := nI 20) dL_tables_870 (by first | rfl | decide) ?_
  refine G_icmp_ge (pc := 872) (tgt := 903) dL_tables_872 (by decide) (fun h => absurd h (by decide)) (fun _ => ?_)
  refine G_aload_n (pc := 875) dL_tables_875 rfl ?_
  refine G_iconst (pc := 876) (v := nI 0) dL_tables_876 (by first | rfl | decide) ?_
  refine R_V (pc := 877) (k' := (16553, 138805)) mok_X9_tear lk_L_20 (sh_k h.1) rfl rfl rfl rfl (aok0 rfl) dL_tables_877 (k_tear h (by decide) (t := 0) (r := 0) (k := 19) (by decide) (by decide +kernel) (by decide +kernel) ⟨by decide, by decide⟩) (by decide) (by decide +kernel) rfl (fun Y' q => ?_)
  obtain ⟨-, g', A', h'⟩ := q
  refine G_val (w := nI 0) (by decide +kernel) ?_
  exact kk _ _ _ (CI_frz h' (by decide +kernel) (by decide +kernel))
theorem tq_94 {Γ : GTy} (hG : GS Γ) {W : WTy} {Z : HS} {g : GN} {A : FT} (h : CI 94 Z (toF tqN_79) g A) (kk : ∀ (Z' : HS) (g' : GN) (A' : FT), CI 95 Z' (toF tqN_80) g' A' → G Γ M_L_tables (rm M_L_tables) W (16555, 138817) 888 [some (.ref 800000), some (.int ((-73))), some (.int (nI 18))] [.int (nI 3)] Z') : G Γ M_L_tables (rm M_L_tables) W (16553, 138805) 880 [some (.ref 800000), some (.int ((-73))), some (.int (nI 18))] [.int (nI 0)] Z := by
  refine G_if_ne (pc := 880) (tgt := 901) dL_tables_880 (by decide) (fun h => absurd h (by decide)) (fun _ => ?_)
  refine G_aload_n (pc := 883) dL_tables_883 rfl ?_
  refine G_iconst (pc := 884) (v := nI 0) dL_tables_884 (by first | rfl | decide) ?_
  refine R_V (pc := 885) (k' := (16555, 138817)) mok_X9_mend lk_L_23 (sh_k h.1) rfl rfl rfl rfl (aok0 rfl) dL_tables_885 (m_mend h (by decide) (t := 0) (by decide)) (by decide) (by decide +kernel) rfl (fun Y' q => ?_)
  obtain ⟨-, g', A', h'⟩ := q
  refine G_val (w := nI 3) (by decide +kernel) ?_
  exact kk _ _ _ (CI_frz h' (by decide +kernel) (by decide +kernel))
theorem tq_95 {Γ : GTy} (hG : GS Γ) {W : WTy} {Z : HS} {g : GN} {A : FT} (h : CI 95 Z (toF tqN_80) g A) (kk : ∀ (Z' : HS) (g' : GN) (A' : FT), CI 96 Z' (toF tqN_81) g' A' → G Γ M_L_tables (rm M_L_tables) W (16568, 138923) 855 [some (.ref 800000), some (.int ((-73))), some (.int (nI 19))] [.int (nI 19)] Z') : G Γ M_L_tables (rm M_L_tables) W (16555, 138817) 888 [some (.ref 800000), some (.int ((-73))), some (.int (nI 18))] [.int (nI 3)] Z := by
  refine G_iconst (pc := 888) (v := nI 3) dL_tables_888 (by first | rfl | decide) ?_
  refine G_icmp_ne (pc := 889) (tgt := 901) dL_tables_889 (by decide) (fun h => absurd h (by decide)) (fun _ => ?_)
  refine G_aload_n (pc := 892) dL_tables_892 rfl ?_
  refine G_iload_n (pc := 893) dL_tables_893 rfl ?_
  refine R_V (pc := 894) (k' := (16556, 138823)) mok_X9_state lk_L_77 (sh_k h.1) rfl rfl rfl rfl (aok0 rfl) dL_tables_894 (t_state h (f := 18) (fr_lt h (m := 19) (by decide +kernel) ⟨by decide, by decide⟩)) (by decide) u2_e rfl (fun Y' q => ?_)
  subst q
  refine G_val (w := nI 1) (by decide +kernel) ?_
  refine G_iconst (pc := 897) (v := nI 1) dL_tables_897 (by first | rfl | decide) ?_
  refine G_icmp_eq (pc := 898) (tgt := 903) dL_tables_898 (by decide) (fun _ => ?_) (fun h => absurd h (by decide))
  refine G_iincN (pc := 903) dL_tables_903 rfl (by decide) ?_
  show G _ _ _ _ _ _ [some (.ref 800000), some (.int ((-73))), some (.int (nI 19))] [] _
  refine G_goto (pc := 906) (tgt := 836) dL_tables_906 (by decide) ?_
  refine G_iload_n (pc := 836) dL_tables_836 rfl ?_
  refine G_bipush (pc := 837) (v := nI 21) dL_tables_837 (by first | rfl | decide) ?_
  refine G_icmp_ge (pc := 839) (tgt := 909) dL_tables_839 (by decide) (fun h => absurd h (by decide)) (fun _ => ?_)
  refine G_aload_n (pc := 842) dL_tables_842 rfl ?_
  refine G_bipush (pc := 843) (v := nI 6) dL_tables_843 (by first | rfl | decide) ?_
  refine G_iconst (pc := 845) (v := nI 0) dL_tables_845 (by first | rfl | decide) ?_
  refine G_iload_n (pc := 846) dL_tables_846 rfl ?_
  refine G_bipush (pc := 847) (v := nI 7) dL_tables_847 (by first | rfl | decide) ?_
  refine G_iremN (pc := 849) (by omega) (by omega) (by omega) dL_tables_849 ?_
  refine G_val (w := nI 5) (by decide) ?_
  refine G_bipush (pc := 850) (v := nI 7) dL_tables_850 (by first | rfl | decide) ?_
  refine K_SW5 (pc := 852) (k' := (16568, 138923)) mok_L_act lk_L_122 rfl (by exact (fun _ => ⟨rfl, fun r hr => by rw [List.mem_singleton.mp (show r ∈ [800000] from hr), sh_k h.1]; decide, fun _ hr => nomatch hr⟩)) dL_tables_852 (act_6 (QV' := QA 95 _ _ (nI 19)) (x := nI 0) (y := nI 5) (z := nI 7) h.1 (k_begin hG h (by decide) (t := 0) (a := 5) (c := 7) (z := nI 1) (m := 19) (by decide) (by decide) (by decide) (Or.inr rfl) (by decide +kernel) (by decide)) es_5 (fun Z' _ q => ⟨congrArg (fun t => some (Value.int t)) (by decide +kernel), q⟩) (fun i E Z' q1 q2 _ => no_x (by decide) (by decide +kernel) q1 q2)) rfl (fun v Y' q => ?_) (fun E Y' q => q.elim)
  obtain ⟨rfl, -, g', A', h'⟩ := q
  show G _ _ _ _ _ _ _ (_ :: _) _
  exact kk _ _ _ (CI_frz h' (by decide +kernel) (by decide +kernel))
theorem tq_96 {Γ : GTy} (hG : GS Γ) {W : WTy} {Z : HS} {g : GN} {A : FT} (h : CI 96 Z (toF tqN_81) g A) (kk : ∀ (Z' : HS) (g' : GN) (A' : FT), CI 97 Z' (toF tqN_82) g' A' → G Γ M_L_tables (rm M_L_tables) W (16570, 138935) 880 [some (.ref 800000), some (.int ((-73))), some (.int (nI 19))] [.int (nI 0)] Z') : G Γ M_L_tables (rm M_L_tables) W (16568, 138923) 855 [some (.ref 800000), some (.int ((-73))), some (.int (nI 19))] [.int (nI 19)] Z := by
  refine G_iload_n (pc := 855) dL_tables_855 rfl ?_
  refine G_bipush (pc := 856) (v := nI 20) dL_tables_856 (by first | rfl | decide) ?_
  refine G_icmp_ge (pc := 858) (tgt := 865) dL_tables_858 (by decide) (fun h => absurd h (by decide)) (fun _ => ?_)
  refine G_iload_n (pc := 861) dL_tables_861 rfl ?_
  refine G_goto (pc := 862) (tgt := 866) dL_tables_862 (by decide) ?_
  refine G_icmp_ne (pc := 866) (tgt := 901) dL_tables_866 (by decide) (fun h => absurd h (by decide)) (fun _ => ?_)
  refine G_iload_n (pc := 869) dL_tables_869 rfl ?_
  refine G_bipush (pc := 870) (v := nI 20) dL_tables_870 (by first | rfl | decide) ?_
  refine G_icmp_ge (pc := 872) (tgt := 903) dL_tables_872 (by decide) (fun h => absurd h (by decide)) (fun _ => ?_)
  refine G_aload_n (pc := 875) dL_tables_875 rfl ?_
  refine G_iconst (pc := 876) (v := nI 0) dL_tables_876 (by first | rfl | decide) ?_
  refine R_V (pc := 877) (k' := (16570, 138935)) mok_X9_tear lk_L_20 (sh_k h.1) rfl rfl rfl rfl (aok0 rfl) dL_tables_877 (k_tear h (by decide) (t := 0) (r := 0) (k := 20) (by decide) (by decide +kernel) (by decide +kernel) ⟨by decide, by decide⟩) (by decide) (by decide +kernel) rfl (fun Y' q => ?_)
  obtain ⟨-, g', A', h'⟩ := q
  refine G_val (w := nI 0) (by decide +kernel) ?_
  exact kk _ _ _ (CI_frz h' (by decide +kernel) (by decide +kernel))
theorem tq_97 {Γ : GTy} (hG : GS Γ) {W : WTy} {Z : HS} {g : GN} {A : FT} (h : CI 97 Z (toF tqN_82) g A) (kk : ∀ (Z' : HS) (g' : GN) (A' : FT), CI 98 Z' (toF tqN_83) g' A' → G Γ M_L_tables (rm M_L_tables) W (16572, 138947) 888 [some (.ref 800000), some (.int ((-73))), some (.int (nI 19))] [.int (nI 3)] Z') : G Γ M_L_tables (rm M_L_tables) W (16570, 138935) 880 [some (.ref 800000), some (.int ((-73))), some (.int (nI 19))] [.int (nI 0)] Z := by
  refine G_if_ne (pc := 880) (tgt := 901) dL_tables_880 (by decide) (fun h => absurd h (by decide)) (fun _ => ?_)
  refine G_aload_n (pc := 883) dL_tables_883 rfl ?_
  refine G_iconst (pc := 884) (v := nI 0) dL_tables_884 (by first | rfl | decide) ?_
  refine R_V (pc := 885) (k' := (16572, 138947)) mok_X9_mend lk_L_23 (sh_k h.1) rfl rfl rfl rfl (aok0 rfl) dL_tables_885 (m_mend h (by decide) (t := 0) (by decide)) (by decide) (by decide +kernel) rfl (fun Y' q => ?_)
  obtain ⟨-, g', A', h'⟩ := q
  refine G_val (w := nI 3) (by decide +kernel) ?_
  exact kk _ _ _ (CI_frz h' (by decide +kernel) (by decide +kernel))
theorem tq_98 {Γ : GTy} (hG : GS Γ) {W : WTy} {Z : HS} {g : GN} {A : FT} (h : CI 98 Z (toF tqN_83) g A) (kk : ∀ (Z' : HS) (g' : GN) (A' : FT), CI 99 Z' (toF tqN_83) g' A' → G Γ M_L_tables (rm M_L_tables) W (16585, 139053) 855 [some (.ref 800000), some (.int ((-73))), some (.int (nI 20))] [.int ((-73))] Z') : G Γ M_L_tables (rm M_L_tables) W (16572, 138947) 888 [some (.ref 800000), some (.int ((-73))), some (.int (nI 19))] [.int (nI 3)] Z := by
  refine G_iconst (pc := 888) (v := nI 3) dL_tables_888 (by first | rfl | decide) ?_
  refine G_icmp_ne (pc := 889) (tgt := 901) dL_tables_889 (by decide) (fun h => absurd h (by decide)) (fun _ => ?_)
  refine G_aload_n (pc := 892) dL_tables_892 rfl ?_
  refine G_iload_n (pc := 893) dL_tables_893 rfl ?_
  refine R_V (pc := 894) (k' := (16573, 138953)) mok_X9_state lk_L_77 (sh_k h.1) rfl rfl rfl rfl (aok0 rfl) dL_tables_894 (t_state h (f := 19) (fr_lt h (m := 20) (by decide +kernel) ⟨by decide, by decide⟩)) (by decide) u2_e rfl (fun Y' q => ?_)
  subst q
  refine G_val (w := nI 1) (by decide +kernel) ?_
  refine G_iconst (pc := 897) (v := nI 1) dL_tables_897 (by first | rfl | decide) ?_
  refine G_icmp_eq (pc := 898) (tgt := 903) dL_tables_898 (by decide) (fun _ => ?_) (fun h => absurd h (by decide))
  refine G_iincN (pc := 903) dL_tables_903 rfl (by decide) ?_
  show G _ _ _ _ _ _ [some (.ref 800000), some (.int ((-73))), some (.int (nI 20))] [] _
  refine G_goto (pc := 906) (tgt := 836) dL_tables_906 (by decide) ?_
  refine G_iload_n (pc := 836) dL_tables_836 rfl ?_
  refine G_bipush (pc := 837) (v := nI 21) dL_tables_837 (by first | rfl | decide) ?_
  refine G_icmp_ge (pc := 839) (tgt := 909) dL_tables_839 (by decide) (fun h => absurd h (by decide)) (fun _ => ?_)
  refine G_aload_n (pc := 842) dL_tables_842 rfl ?_
  refine G_bipush (pc := 843) (v := nI 6) dL_tables_843 (by first | rfl | decide) ?_
  refine G_iconst (pc := 845) (v := nI 0) dL_tables_845 (by first | rfl | decide) ?_
  refine G_iload_n (pc := 846) dL_tables_846 rfl ?_
  refine G_bipush (pc := 847) (v := nI 7) dL_tables_847 (by first | rfl | decide) ?_
  refine G_iremN (pc := 849) (by omega) (by omega) (by omega) dL_tables_849 ?_
  refine G_val (w := nI 6) (by decide) ?_
  refine G_bipush (pc := 850) (v := nI 7) dL_tables_850 (by first | rfl | decide) ?_
  refine K_SW5 (pc := 852) (k' := (16585, 139053)) mok_L_act lk_L_122 rfl (by exact (fun _ => ⟨rfl, fun r hr => by rw [List.mem_singleton.mp (show r ∈ [800000] from hr), sh_k h.1]; decide, fun _ hr => nomatch hr⟩)) dL_tables_852 (act_6 (QV' := QA 98 _ _ ((-73))) (x := nI 0) (y := nI 6) (z := nI 7) h.1 (k_begin hG h (by decide) (t := 0) (a := 6) (c := 7) (z := nI 1) (m := 20) (by decide) (by decide) (by decide) (Or.inr rfl) (by decide +kernel) (by decide)) es_5 (fun Z' q _ => absurd q (by decide +kernel)) (fun i E Z' q1 q2 q3 => ⟨one_x (i0 := 2) (by decide) (by decide +kernel) rfl q1 q2 xc_IS, q3⟩)) rfl (fun v Y' q => ?_) (fun E Y' q => q.elim)
  obtain ⟨rfl, -, g', A', h'⟩ := q
  show G _ _ _ _ _ _ _ (_ :: _) _
  exact kk _ _ _ (CI_frz h' (by decide +kernel) (by decide +kernel))
theorem tq_99 {Γ : GTy} (hG : GS Γ) {W : WTy} {Z : HS} {g : GN} {A : FT} (h : CI 99 Z (toF tqN_83) g A) (kk : ∀ (Z' : HS) (g' : GN) (A' : FT), CI 100 Z' (toF tqN_84) g' A' → G Γ M_L_tables (rm M_L_tables) W (16587, 139065) 924 [some (.ref 800000), some (.int ((-73))), some (.int (nI 0))] [.int (nI 0)] Z') : G Γ M_L_tables (rm M_L_tables) W (16585, 139053) 855 [some (.ref 800000), some (.int ((-73))), some (.int (nI 20))] [.int ((-73))] Z := by
  refine G_iload_n (pc := 855) dL_tables_855 rfl ?_
  refine G_bipush (pc := 856) (v := nI 20) dL_tables_856 (by first | rfl | decide) ?_
  refine G_icmp_ge (pc := 858) (tgt := 865) dL_tables_858 (by decide) (fun _ => ?_) (fun h => absurd h (by decide))
  refine G_iload_n (pc := 865) dL_tables_865 rfl ?_
  refine G_icmp_ne (pc := 866) (tgt := 901) dL_tables_866 (by decide) (fun h => absurd h (by decide)) (fun _ => ?_)
  refine G_iload_n (pc := 869) dL_tables_869 rfl ?_
  refine G_bipush (pc := 870) (v := nI 20) dL_tables_870 (by first | rfl | decide) ?_
  refine G_icmp_ge (pc := 872) (tgt := 903) dL_tables_872 (by decide) (fun _ => ?_) (fun h => absurd h (by decide))
  refine G_iincN (pc := 903) dL_tables_903 rfl (by decide) ?_
  show G _ _ _ _ _ _ [some (.ref 800000), some (.int ((-73))), some (.int (nI 21))] [] _
  refine G_goto (pc := 906) (tgt := 836) dL_tables_906 (by decide) ?_
  refine G_iload_n (pc := 836) dL_tables_836 rfl ?_
  refine G_bipush (pc := 837) (v := nI 21) dL_tables_837 (by first | rfl | decide) ?_
  refine G_icmp_ge (pc := 839) (tgt := 909) dL_tables_839 (by decide) (fun _ => ?_) (fun h => absurd h (by decide))
  refine G_iconst (pc := 909) (v := nI 0) dL_tables_909 (by first | rfl | decide) ?_
  refine G_istore_n (pc := 910) dL_tables_910 (by decide) ?_
  refine G_iload_n (pc := 911) dL_tables_911 rfl ?_
  refine G_bipush (pc := 912) (v := nI 48) dL_tables_912 (by first | rfl | decide) ?_
  refine G_icmp_ge (pc := 914) (tgt := 935) dL_tables_914 (by decide) (fun h => absurd h (by decide)) (fun _ => ?_)
  refine G_aload_n (pc := 917) dL_tables_917 rfl ?_
  refine G_sipush (pc := 918) (v := nI 200) dL_tables_918 (by first | rfl | decide) ?_
  refine R_V (pc := 921) (k' := (16587, 139065)) mok_X9_pass lk_L_26 (sh_k h.1) rfl rfl rfl rfl (aok0 rfl) dL_tables_921 (k_pass h (by decide) (m := 200) (t := 233) (by decide +kernel) ⟨by decide, by decide, by decide⟩) (by decide) (by decide +kernel) rfl (fun Y' q => ?_)
  obtain ⟨-, g', A', h'⟩ := q
  refine G_val (w := nI 0) (by decide +kernel) ?_
  exact kk _ _ _ (CI_frz h' (by decide +kernel) (by decide +kernel))
theorem tq_100 {Γ : GTy} (hG : GS Γ) {W : WTy} {Z : HS} {g : GN} {A : FT} (h : CI 100 Z (toF tqN_84) g A) (kk : ∀ (Z' : HS) (g' : GN) (A' : FT), CI 101 Z' (toF tqN_85) g' A' → G Γ M_L_tables (rm M_L_tables) W (16589, 139077) 924 [some (.ref 800000), some (.int ((-73))), some (.int (nI 1))] [.int (nI 0)] Z') : G Γ M_L_tables (rm M_L_tables) W (16587, 139065) 924 [some (.ref 800000), some (.int ((-73))), some (.int (nI 0))] [.int (nI 0)] Z := by
  refine G_if_eq (pc := 924) (tgt := 929) dL_tables_924 (by decide) (fun _ => ?_) (fun h => absurd h (by decide))
  refine G_iincN (pc := 929) dL_tables_929 rfl (by decide) ?_
  show G _ _ _ _ _ _ [some (.ref 800000), some (.int ((-73))), some (.int (nI 1))] [] _
  refine G_goto (pc := 932) (tgt := 911) dL_tables_932 (by decide) ?_
  refine G_iload_n (pc := 911) dL_tables_911 rfl ?_
  refine G_bipush (pc := 912) (v := nI 48) dL_tables_912 (by first | rfl | decide) ?_
  refine G_icmp_ge (pc := 914) (tgt := 935) dL_tables_914 (by decide) (fun h => absurd h (by decide)) (fun _ => ?_)
  refine G_aload_n (pc := 917) dL_tables_917 rfl ?_
  refine G_sipush (pc := 918) (v := nI 200) dL_tables_918 (by first | rfl | decide) ?_
  refine R_V (pc := 921) (k' := (16589, 139077)) mok_X9_pass lk_L_26 (sh_k h.1) rfl rfl rfl rfl (aok0 rfl) dL_tables_921 (k_pass h (by decide) (m := 200) (t := 433) (by decide +kernel) ⟨by decide, by decide, by decide⟩) (by decide) (by decide +kernel) rfl (fun Y' q => ?_)
  obtain ⟨-, g', A', h'⟩ := q
  refine G_val (w := nI 0) (by decide +kernel) ?_
  exact kk _ _ _ (CI_frz h' (by decide +kernel) (by decide +kernel))
theorem tq_101 {Γ : GTy} (hG : GS Γ) {W : WTy} {Z : HS} {g : GN} {A : FT} (h : CI 101 Z (toF tqN_85) g A) (kk : ∀ (Z' : HS) (g' : GN) (A' : FT), CI 102 Z' (toF tqN_86) g' A' → G Γ M_L_tables (rm M_L_tables) W (16591, 139089) 924 [some (.ref 800000), some (.int ((-73))), some (.int (nI 2))] [.int (nI 0)] Z') : G Γ M_L_tables (rm M_L_tables) W (16589, 139077) 924 [some (.ref 800000), some (.int ((-73))), some (.int (nI 1))] [.int (nI 0)] Z := by
  refine G_if_eq (pc := 924) (tgt := 929) dL_tables_924 (by decide) (fun _ => ?_) (fun h => absurd h (by decide))
  refine G_iincN (pc := 929) dL_tables_929 rfl (by decide) ?_
  show G _ _ _ _ _ _ [some (.ref 800000), some (.int ((-73))), some (.int (nI 2))] [] _
  refine G_goto (pc := 932) (tgt := 911) dL_tables_932 (by decide) ?_
  refine G_iload_n (pc := 911) dL_tables_911 rfl ?_
  refine G_bipush (pc := 912) (v := nI 48) dL_tables_912 (by first | rfl | decide) ?_
  refine G_icmp_ge (pc := 914) (tgt := 935) dL_tables_914 (by decide) (fun h => absurd h (by decide)) (fun _ => ?_)
  refine G_aload_n (pc := 917) dL_tables_917 rfl ?_
  refine G_sipush (pc := 918) (v := nI 200) dL_tables_918 (by first | rfl | decide) ?_
  refine R_V (pc := 921) (k' := (16591, 139089)) mok_X9_pass lk_L_26 (sh_k h.1) rfl rfl rfl rfl (aok0 rfl) dL_tables_921 (k_pass h (by decide) (m := 200) (t := 633) (by decide +kernel) ⟨by decide, by decide, by decide⟩) (by decide) (by decide +kernel) rfl (fun Y' q => ?_)
  obtain ⟨-, g', A', h'⟩ := q
  refine G_val (w := nI 0) (by decide +kernel) ?_
  exact kk _ _ _ (CI_frz h' (by decide +kernel) (by decide +kernel))
theorem tq_102 {Γ : GTy} (hG : GS Γ) {W : WTy} {Z : HS} {g : GN} {A : FT} (h : CI 102 Z (toF tqN_86) g A) (kk : ∀ (Z' : HS) (g' : GN) (A' : FT), CI 103 Z' (toF tqN_87) g' A' → G Γ M_L_tables (rm M_L_tables) W (16593, 139101) 924 [some (.ref 800000), some (.int ((-73))), some (.int (nI 3))] [.int (nI 0)] Z') : G Γ M_L_tables (rm M_L_tables) W (16591, 139089) 924 [some (.ref 800000), some (.int ((-73))), some (.int (nI 2))] [.int (nI 0)] Z := by
  refine G_if_eq (pc := 924) (tgt := 929) dL_tables_924 (by decide) (fun _ => ?_) (fun h => absurd h (by decide))
  refine G_iincN (pc := 929) dL_tables_929 rfl (by decide) ?_
  show G _ _ _ _ _ _ [some (.ref 800000), some (.int ((-73))), some (.int (nI 3))] [] _
  refine G_goto (pc := 932) (tgt := 911) dL_tables_932 (by decide) ?_
  refine G_iload_n (pc := 911) dL_tables_911 rfl ?_
  refine G_bipush (pc := 912) (v := nI 48) dL_tables_912 (by first | rfl | decide) ?_
  refine G_icmp_ge (pc := 914) (tgt := 935) dL_tables_914 (by decide) (fun h => absurd h (by decide)) (fun _ => ?_)
  refine G_aload_n (pc := 917) dL_tables_917 rfl ?_
  refine G_sipush (pc := 918) (v := nI 200) dL_tables_918 (by first | rfl | decide) ?_
  refine R_V (pc := 921) (k' := (16593, 139101)) mok_X9_pass lk_L_26 (sh_k h.1) rfl rfl rfl rfl (aok0 rfl) dL_tables_921 (k_pass h (by decide) (m := 200) (t := 833) (by decide +kernel) ⟨by decide, by decide, by decide⟩) (by decide) (by decide +kernel) rfl (fun Y' q => ?_)
  obtain ⟨-, g', A', h'⟩ := q
  refine G_val (w := nI 0) (by decide +kernel) ?_
  exact kk _ _ _ (CI_frz h' (by decide +kernel) (by decide +kernel))
theorem tq_103 {Γ : GTy} (hG : GS Γ) {W : WTy} {Z : HS} {g : GN} {A : FT} (h : CI 103 Z (toF tqN_87) g A) (kk : ∀ (Z' : HS) (g' : GN) (A' : FT), CI 104 Z' (toF tqN_88) g' A' → G Γ M_L_tables (rm M_L_tables) W (16595, 139113) 924 [some (.ref 800000), some (.int ((-73))), some (.int (nI 4))] [.int (nI 0)] Z') : G Γ M_L_tables (rm M_L_tables) W (16593, 139101) 924 [some (.ref 800000), some (.int ((-73))), some (.int (nI 3))] [.int (nI 0)] Z := by
  refine G_if_eq (pc := 924) (tgt := 929) dL_tables_924 (by decide) (fun _ => ?_) (fun h => absurd h (by decide))
  refine G_iincN (pc := 929) dL_tables_929 rfl (by decide) ?_
  show G _ _ _ _ _ _ [some (.ref 800000), some (.int ((-73))), some (.int (nI 4))] [] _
  refine G_goto (pc := 932) (tgt := 911) dL_tables_932 (by decide) ?_
  refine G_iload_n (pc := 911) dL_tables_911 rfl ?_
  refine G_bipush (pc := 912) (v := nI 48) dL_tables_912 (by first | rfl | decide) ?_
  refine G_icmp_ge (pc := 914) (tgt := 935) dL_tables_914 (by decide) (fun h => absurd h (by decide)) (fun _ => ?_)
  refine G_aload_n (pc := 917) dL_tables_917 rfl ?_
  refine G_sipush (pc := 918) (v := nI 200) dL_tables_918 (by first | rfl | decide) ?_
  refine R_V (pc := 921) (k' := (16595, 139113)) mok_X9_pass lk_L_26 (sh_k h.1) rfl rfl rfl rfl (aok0 rfl) dL_tables_921 (k_pass h (by decide) (m := 200) (t := 1033) (by decide +kernel) ⟨by decide, by decide, by decide⟩) (by decide) (by decide +kernel) rfl (fun Y' q => ?_)
  obtain ⟨-, g', A', h'⟩ := q
  refine G_val (w := nI 0) (by decide +kernel) ?_
  exact kk _ _ _ (CI_frz h' (by decide +kernel) (by decide +kernel))
theorem tq_104 {Γ : GTy} (hG : GS Γ) {W : WTy} {Z : HS} {g : GN} {A : FT} (h : CI 104 Z (toF tqN_88) g A) (kk : ∀ (Z' : HS) (g' : GN) (A' : FT), CI 105 Z' (toF tqN_89) g' A' → G Γ M_L_tables (rm M_L_tables) W (16597, 139125) 924 [some (.ref 800000), some (.int ((-73))), some (.int (nI 5))] [.int (nI 0)] Z') : G Γ M_L_tables (rm M_L_tables) W (16595, 139113) 924 [some (.ref 800000), some (.int ((-73))), some (.int (nI 4))] [.int (nI 0)] Z := by
  refine G_if_eq (pc := 924) (tgt := 929) dL_tables_924 (by decide) (fun _ => ?_) (fun h => absurd h (by decide))
  refine G_iincN (pc := 929) dL_tables_929 rfl (by decide) ?_
  show G _ _ _ _ _ _ [some (.ref 800000), some (.int ((-73))), some (.int (nI 5))] [] _
  refine G_goto (pc := 932) (tgt := 911) dL_tables_932 (by decide) ?_
  refine G_iload_n (pc := 911) dL_tables_911 rfl ?_
  refine G_bipush (pc := 912) (v := nI 48) dL_tables_912 (by first | rfl | decide) ?_
  refine G_icmp_ge (pc := 914) (tgt := 935) dL_tables_914 (by decide) (fun h => absurd h (by decide)) (fun _ => ?_)
  refine G_aload_n (pc := 917) dL_tables_917 rfl ?_
  refine G_sipush (pc := 918) (v := nI 200) dL_tables_918 (by first | rfl | decide) ?_
  refine R_V (pc := 921) (k' := (16597, 139125)) mok_X9_pass lk_L_26 (sh_k h.1) rfl rfl rfl rfl (aok0 rfl) dL_tables_921 (k_pass h (by decide) (m := 200) (t := 1233) (by decide +kernel) ⟨by decide, by decide, by decide⟩) (by decide) (by decide +kernel) rfl (fun Y' q => ?_)
  obtain ⟨-, g', A', h'⟩ := q
  refine G_val (w := nI 0) (by decide +kernel) ?_
  exact kk _ _ _ (CI_frz h' (by decide +kernel) (by decide +kernel))
theorem tq_105 {Γ : GTy} (hG : GS Γ) {W : WTy} {Z : HS} {g : GN} {A : FT} (h : CI 105 Z (toF tqN_89) g A) (kk : ∀ (Z' : HS) (g' : GN) (A' : FT), CI 106 Z' (toF tqN_90) g' A' → G Γ M_L_tables (rm M_L_tables) W (16599, 139137) 924 [some (.ref 800000), some (.int ((-73))), some (.int (nI 6))] [.int (nI 0)] Z') : G Γ M_L_tables (rm M_L_tables) W (16597, 139125) 924 [some (.ref 800000), some (.int ((-73))), some (.int (nI 5))] [.int (nI 0)] Z := by
  refine G_if_eq (pc := 924) (tgt := 929) dL_tables_924 (by decide) (fun _ => ?_) (fun h => absurd h (by decide))
  refine G_iincN (pc := 929) dL_tables_929 rfl (by decide) ?_
  show G _ _ _ _ _ _ [some (.ref 800000), some (.int ((-73))), some (.int (nI 6))] [] _
  refine G_goto (pc := 932) (tgt := 911) dL_tables_932 (by decide) ?_
  refine G_iload_n (pc := 911) dL_tables_911 rfl ?_
  refine G_bipush (pc := 912) (v := nI 48) dL_tables_912 (by first | rfl | decide) ?_
  refine G_icmp_ge (pc := 914) (tgt := 935) dL_tables_914 (by decide) (fun h => absurd h (by decide)) (fun _ => ?_)
  refine G_aload_n (pc := 917) dL_tables_917 rfl ?_
  refine G_sipush (pc := 918) (v := nI 200) dL_tables_918 (by first | rfl | decide) ?_
  refine R_V (pc := 921) (k' := (16599, 139137)) mok_X9_pass lk_L_26 (sh_k h.1) rfl rfl rfl rfl (aok0 rfl) dL_tables_921 (k_pass h (by decide) (m := 200) (t := 1433) (by decide +kernel) ⟨by decide, by decide, by decide⟩) (by decide) (by decide +kernel) rfl (fun Y' q => ?_)
  obtain ⟨-, g', A', h'⟩ := q
  refine G_val (w := nI 0) (by decide +kernel) ?_
  exact kk _ _ _ (CI_frz h' (by decide +kernel) (by decide +kernel))
theorem tq_106 {Γ : GTy} (hG : GS Γ) {W : WTy} {Z : HS} {g : GN} {A : FT} (h : CI 106 Z (toF tqN_90) g A) (kk : ∀ (Z' : HS) (g' : GN) (A' : FT), CI 107 Z' (toF tqN_91) g' A' → G Γ M_L_tables (rm M_L_tables) W (16601, 139149) 924 [some (.ref 800000), some (.int ((-73))), some (.int (nI 7))] [.int (nI 0)] Z') : G Γ M_L_tables (rm M_L_tables) W (16599, 139137) 924 [some (.ref 800000), some (.int ((-73))), some (.int (nI 6))] [.int (nI 0)] Z := by
  refine G_if_eq (pc := 924) (tgt := 929) dL_tables_924 (by decide) (fun _ => ?_) (fun h => absurd h (by decide))
  refine G_iincN (pc := 929) dL_tables_929 rfl (by decide) ?_
  show G _ _ _ _ _ _ [some (.ref 800000), some (.int ((-73))), some (.int (nI 7))] [] _
  refine G_goto (pc := 932) (tgt := 911) dL_tables_932 (by decide) ?_
  refine G_iload_n (pc := 911) dL_tables_911 rfl ?_
  refine G_bipush (pc := 912) (v := nI 48) dL_tables_912 (by first | rfl | decide) ?_
  refine G_icmp_ge (pc := 914) (tgt := 935) dL_tables_914 (by decide) (fun h => absurd h (by decide)) (fun _ => ?_)
  refine G_aload_n (pc := 917) dL_tables_917 rfl ?_
  refine G_sipush (pc := 918) (v := nI 200) dL_tables_918 (by first | rfl | decide) ?_
  refine R_V (pc := 921) (k' := (16601, 139149)) mok_X9_pass lk_L_26 (sh_k h.1) rfl rfl rfl rfl (aok0 rfl) dL_tables_921 (k_pass h (by decide) (m := 200) (t := 1633) (by decide +kernel) ⟨by decide, by decide, by decide⟩) (by decide) (by decide +kernel) rfl (fun Y' q => ?_)
  obtain ⟨-, g', A', h'⟩ := q
  refine G_val (w := nI 0) (by decide +kernel) ?_
  exact kk _ _ _ (CI_frz h' (by decide +kernel) (by decide +kernel))
theorem tq_107 {Γ : GTy} (hG : GS Γ) {W : WTy} {Z : HS} {g : GN} {A : FT} (h : CI 107 Z (toF tqN_91) g A) (kk : ∀ (Z' : HS) (g' : GN) (A' : FT), CI 108 Z' (toF tqN_92) g' A' → G Γ M_L_tables (rm M_L_tables) W (16603, 139161) 924 [some (.ref 800000), some (.int ((-73))), some (.int (nI 8))] [.int (nI 0)] Z') : G Γ M_L_tables (rm M_L_tables) W (16601, 139149) 924 [some (.ref 800000), some (.int ((-73))), some (.int (nI 7))] [.int (nI 0)] Z := by
  refine G_if_eq (pc := 924) (tgt := 929) dL_tables_924 (by decide) (fun _ => ?_) (fun h => absurd h (by decide))
  refine G_iincN (pc := 929) dL_tables_929 rfl (by decide) ?_
  show G _ _ _ _ _ _ [some (.ref 800000), some (.int ((-73))), some (.int (nI 8))] [] _
  refine G_goto (pc := 932) (tgt := 911) dL_tables_932 (by decide) ?_
  refine G_iload_n (pc := 911) dL_tables_911 rfl ?_
  refine G_bipush (pc := 912) (v := nI 48) dL_tables_912 (by first | rfl | decide) ?_
  refine G_icmp_ge (pc := 914) (tgt := 935) dL_tables_914 (by decide) (fun h => absurd h (by decide)) (fun _ => ?_)
  refine G_aload_n (pc := 917) dL_tables_917 rfl ?_
  refine G_sipush (pc := 918) (v := nI 200) dL_tables_918 (by first | rfl | decide) ?_
  refine R_V (pc := 921) (k' := (16603, 139161)) mok_X9_pass lk_L_26 (sh_k h.1) rfl rfl rfl rfl (aok0 rfl) dL_tables_921 (k_pass h (by decide) (m := 200) (t := 1833) (by decide +kernel) ⟨by decide, by decide, by decide⟩) (by decide) (by decide +kernel) rfl (fun Y' q => ?_)
  obtain ⟨-, g', A', h'⟩ := q
  refine G_val (w := nI 0) (by decide +kernel) ?_
  exact kk _ _ _ (CI_frz h' (by decide +kernel) (by decide +kernel))
theorem tq_108 {Γ : GTy} (hG : GS Γ) {W : WTy} {Z : HS} {g : GN} {A : FT} (h : CI 108 Z (toF tqN_92) g A) (kk : ∀ (Z' : HS) (g' : GN) (A' : FT), CI 109 Z' (toF tqN_93) g' A' → G Γ M_L_tables (rm M_L_tables) W (16605, 139173) 924 [some (.ref 800000), some (.int ((-73))), some (.int (nI 9))] [.int (nI 0)] Z') : G Γ M_L_tables (rm M_L_tables) W (16603, 139161) 924 [some (.ref 800000), some (.int ((-73))), some (.int (nI 8))] [.int (nI 0)] Z := by
  refine G_if_eq (pc := 924) (tgt := 929) dL_tables_924 (by decide) (fun _ => ?_) (fun h => absurd h (by decide))
  refine G_iincN (pc := 929) dL_tables_929 rfl (by decide) ?_
  show G _ _ _ _ _ _ [some (.ref 800000), some (.int ((-73))), some (.int (nI 9))] [] _
  refine G_goto (pc := 932) (tgt := 911) dL_tables_932 (by decide) ?_
  refine G_iload_n (pc := 911) dL_tables_911 rfl ?_
  refine G_bipush (pc := 912) (v := nI 48) dL_tables_912 (by first | rfl | decide) ?_
  refine G_icmp_ge (pc := 914) (tgt := 935) dL_tables_914 (by decide) (fun h => absurd h (by decide)) (fun _ => ?_)
  refine G_aload_n (pc := 917) dL_tables_917 rfl ?_
  refine G_sipush (pc := 918) (v := nI 200) dL_tables_918 (by first | rfl | decide) ?_
  refine R_V (pc := 921) (k' := (16605, 139173)) mok_X9_pass lk_L_26 (sh_k h.1) rfl rfl rfl rfl (aok0 rfl) dL_tables_921 (k_pass h (by decide) (m := 200) (t := 2033) (by decide +kernel) ⟨by decide, by decide, by decide⟩) (by decide) (by decide +kernel) rfl (fun Y' q => ?_)
  obtain ⟨-, g', A', h'⟩ := q
  refine G_val (w := nI 0) (by decide +kernel) ?_
  exact kk _ _ _ (CI_frz h' (by decide +kernel) (by decide +kernel))
theorem tq_109 {Γ : GTy} (hG : GS Γ) {W : WTy} {Z : HS} {g : GN} {A : FT} (h : CI 109 Z (toF tqN_93) g A) (kk : ∀ (Z' : HS) (g' : GN) (A' : FT), CI 110 Z' (toF tqN_94) g' A' → G Γ M_L_tables (rm M_L_tables) W (16607, 139185) 924 [some (.ref 800000), some (.int ((-73))), some (.int (nI 10))] [.int (nI 0)] Z') : G Γ M_L_tables (rm M_L_tables) W (16605, 139173) 924 [some (.ref 800000), some (.int ((-73))), some (.int (nI 9))] [.int (nI 0)] Z := by
  refine G_if_eq (pc := 924) (tgt := 929) dL_tables_924 (by decide) (fun _ => ?_) (fun h => absurd h (by decide))
  refine G_iincN (pc := 929) dL_tables_929 rfl (by decide) ?_
  show G _ _ _ _ _ _ [some (.ref 800000), some (.int ((-73))), some (.int (nI 10))] [] _
  refine G_goto (pc := 932) (tgt := 911) dL_tables_932 (by decide) ?_
  refine G_iload_n (pc := 911) dL_tables_911 rfl ?_
  refine G_bipush (pc := 912) (v := nI 48) dL_tables_912 (by first | rfl | decide) ?_
  refine G_icmp_ge (pc := 914) (tgt := 935) dL_tables_914 (by decide) (fun h => absurd h (by decide)) (fun _ => ?_)
  refine G_aload_n (pc := 917) dL_tables_917 rfl ?_
  refine G_sipush (pc := 918) (v := nI 200) dL_tables_918 (by first | rfl | decide) ?_
  refine R_V (pc := 921) (k' := (16607, 139185)) mok_X9_pass lk_L_26 (sh_k h.1) rfl rfl rfl rfl (aok0 rfl) dL_tables_921 (k_pass h (by decide) (m := 200) (t := 2233) (by decide +kernel) ⟨by decide, by decide, by decide⟩) (by decide) (by decide +kernel) rfl (fun Y' q => ?_)
  obtain ⟨-, g', A', h'⟩ := q
  refine G_val (w := nI 0) (by decide +kernel) ?_
  exact kk _ _ _ (CI_frz h' (by decide +kernel) (by decide +kernel))
theorem tq_110 {Γ : GTy} (hG : GS Γ) {W : WTy} {Z : HS} {g : GN} {A : FT} (h : CI 110 Z (toF tqN_94) g A) (kk : ∀ (Z' : HS) (g' : GN) (A' : FT), CI 111 Z' (toF tqN_95) g' A' → G Γ M_L_tables (rm M_L_tables) W (16609, 139197) 924 [some (.ref 800000), some (.int ((-73))), some (.int (nI 11))] [.int (nI 0)] Z') : G Γ M_L_tables (rm M_L_tables) W (16607, 139185) 924 [some (.ref 800000), some (.int ((-73))), some (.int (nI 10))] [.int (nI 0)] Z := by
  refine G_if_eq (pc := 924) (tgt := 929) dL_tables_924 (by decide) (fun _ => ?_) (fun h => absurd h (by decide))
  refine G_iincN (pc := 929) dL_tables_929 rfl (by decide) ?_
  show G _ _ _ _ _ _ [some (.ref 800000), some (.int ((-73))), some (.int (nI 11))] [] _
  refine G_goto (pc := 932) (tgt := 911) dL_tables_932 (by decide) ?_
  refine G_iload_n (pc := 911) dL_tables_911 rfl ?_
  refine G_bipush (pc := 912) (v := nI 48) dL_tables_912 (by first | rfl | decide) ?_
  refine G_icmp_ge (pc := 914) (tgt := 935) dL_tables_914 (by decide) (fun h => absurd h (by decide)) (fun _ => ?_)
  refine G_aload_n (pc := 917) dL_tables_917 rfl ?_
  refine G_sipush (pc := 918) (v := nI 200) dL_tables_918 (by first | rfl | decide) ?_
  refine R_V (pc := 921) (k' := (16609, 139197)) mok_X9_pass lk_L_26 (sh_k h.1) rfl rfl rfl rfl (aok0 rfl) dL_tables_921 (k_pass h (by decide) (m := 200) (t := 2433) (by decide +kernel) ⟨by decide, by decide, by decide⟩) (by decide) (by decide +kernel) rfl (fun Y' q => ?_)
  obtain ⟨-, g', A', h'⟩ := q
  refine G_val (w := nI 0) (by decide +kernel) ?_
  exact kk _ _ _ (CI_frz h' (by decide +kernel) (by decide +kernel))
theorem tq_111 {Γ : GTy} (hG : GS Γ) {W : WTy} {Z : HS} {g : GN} {A : FT} (h : CI 111 Z (toF tqN_95) g A) (kk : ∀ (Z' : HS) (g' : GN) (A' : FT), CI 112 Z' (toF tqN_96) g' A' → G Γ M_L_tables (rm M_L_tables) W (16611, 139209) 924 [some (.ref 800000), some (.int ((-73))), some (.int (nI 12))] [.int (nI 0)] Z') : G Γ M_L_tables (rm M_L_tables) W (16609, 139197) 924 [some (.ref 800000), some (.int ((-73))), some (.int (nI 11))] [.int (nI 0)] Z := by
  refine G_if_eq (pc := 924) (tgt := 929) dL_tables_924 (by decide) (fun _ => ?_) (fun h => absurd h (by decide))
  refine G_iincN (pc := 929) dL_tables_929 rfl (by decide) ?_
  show G _ _ _ _ _ _ [some (.ref 800000), some (.int ((-73))), some (.int (nI 12))] [] _
  refine G_goto (pc := 932) (tgt := 911) dL_tables_932 (by decide) ?_
  refine G_iload_n (pc := 911) dL_tables_911 rfl ?_
  refine G_bipush (pc := 912) (v := nI 48) dL_tables_912 (by first | rfl | decide) ?_
  refine G_icmp_ge (pc := 914) (tgt := 935) dL_tables_914 (by decide) (fun h => absurd h (by decide)) (fun _ => ?_)
  refine G_aload_n (pc := 917) dL_tables_917 rfl ?_
  refine G_sipush (pc := 918) (v := nI 200) dL_tables_918 (by first | rfl | decide) ?_
  refine R_V (pc := 921) (k' := (16611, 139209)) mok_X9_pass lk_L_26 (sh_k h.1) rfl rfl rfl rfl (aok0 rfl) dL_tables_921 (k_pass h (by decide) (m := 200) (t := 2633) (by decide +kernel) ⟨by decide, by decide, by decide⟩) (by decide) (by decide +kernel) rfl (fun Y' q => ?_)
  obtain ⟨-, g', A', h'⟩ := q
  refine G_val (w := nI 0) (by decide +kernel) ?_
  exact kk _ _ _ (CI_frz h' (by decide +kernel) (by decide +kernel))
theorem tq_112 {Γ : GTy} (hG : GS Γ) {W : WTy} {Z : HS} {g : GN} {A : FT} (h : CI 112 Z (toF tqN_96) g A) (kk : ∀ (Z' : HS) (g' : GN) (A' : FT), CI 113 Z' (toF tqN_97) g' A' → G Γ M_L_tables (rm M_L_tables) W (16613, 139221) 924 [some (.ref 800000), some (.int ((-73))), some (.int (nI 13))] [.int (nI 0)] Z') : G Γ M_L_tables (rm M_L_tables) W (16611, 139209) 924 [some (.ref 800000), some (.int ((-73))), some (.int (nI 12))] [.int (nI 0)] Z := by
  refine G_if_eq (pc := 924) (tgt := 929) dL_tables_924 (by decide) (fun _ => ?_) (fun h => absurd h (by decide))
  refine G_iincN (pc := 929) dL_tables_929 rfl (by decide) ?_
  show G _ _ _ _ _ _ [some (.ref 800000), some (.int ((-73))), some (.int (nI 13))] [] _
  refine G_goto (pc := 932) (tgt := 911) dL_tables_932 (by decide) ?_
  refine G_iload_n (pc := 911) dL_tables_911 rfl ?_
  refine G_bipush (pc := 912) (v := nI 48) dL_tables_912 (by first | rfl | decide) ?_
  refine G_icmp_ge (pc := 914) (tgt := 935) dL_tables_914 (by decide) (fun h => absurd h (by decide)) (fun _ => ?_)
  refine G_aload_n (pc := 917) dL_tables_917 rfl ?_
  refine G_sipush (pc := 918) (v := nI 200) dL_tables_918 (by first | rfl | decide) ?_
  refine R_V (pc := 921) (k' := (16613, 139221)) mok_X9_pass lk_L_26 (sh_k h.1) rfl rfl rfl rfl (aok0 rfl) dL_tables_921 (k_pass h (by decide) (m := 200) (t := 2833) (by decide +kernel) ⟨by decide, by decide, by decide⟩) (by decide) (by decide +kernel) rfl (fun Y' q => ?_)
  obtain ⟨-, g', A', h'⟩ := q
  refine G_val (w := nI 0) (by decide +kernel) ?_
  exact kk _ _ _ (CI_frz h' (by decide +kernel) (by decide +kernel))
theorem tq_113 {Γ : GTy} (hG : GS Γ) {W : WTy} {Z : HS} {g : GN} {A : FT} (h : CI 113 Z (toF tqN_97) g A) (kk : ∀ (Z' : HS) (g' : GN) (A' : FT), CI 114 Z' (toF tqN_98) g' A' → G Γ M_L_tables (rm M_L_tables) W (16615, 139233) 924 [some (.ref 800000), some (.int ((-73))), some (.int (nI 14))] [.int (nI 0)] Z') : G Γ M_L_tables (rm M_L_tables) W (16613, 139221) 924 [some (.ref 800000), some (.int ((-73))), some (.int (nI 13))] [.int (nI 0)] Z := by
  refine G_if_eq (pc := 924) (tgt := 929) dL_tables_924 (by decide) (fun _ => ?_) (fun h => absurd h (by decide))
  refine G_iincN (pc := 929) dL_tables_929 rfl (by decide) ?_
  show G _ _ _ _ _ _ [some (.ref 800000), some (.int ((-73))), some (.int (nI 14))] [] _
  refine G_goto (pc := 932) (tgt := 911) dL_tables_932 (by decide) ?_
  refine G_iload_n (pc := 911) dL_tables_911 rfl ?_
  refine G_bipush (pc := 912) (v := nI 48) dL_tables_912 (by first | rfl | decide) ?_
  refine G_icmp_ge (pc := 914) (tgt := 935) dL_tables_914 (by decide) (fun h => absurd h (by decide)) (fun _ => ?_)
  refine G_aload_n (pc := 917) dL_tables_917 rfl ?_
  refine G_sipush (pc := 918) (v := nI 200) dL_tables_918 (by first | rfl | decide) ?_
  refine R_V (pc := 921) (k' := (16615, 139233)) mok_X9_pass lk_L_26 (sh_k h.1) rfl rfl rfl rfl (aok0 rfl) dL_tables_921 (k_pass h (by decide) (m := 200) (t := 3033) (by decide +kernel) ⟨by decide, by decide, by decide⟩) (by decide) (by decide +kernel) rfl (fun Y' q => ?_)
  obtain ⟨-, g', A', h'⟩ := q
  refine G_val (w := nI 0) (by decide +kernel) ?_
  exact kk _ _ _ (CI_frz h' (by decide +kernel) (by decide +kernel))
theorem tq_114 {Γ : GTy} (hG : GS Γ) {W : WTy} {Z : HS} {g : GN} {A : FT} (h : CI 114 Z (toF tqN_98) g A) (kk : ∀ (Z' : HS) (g' : GN) (A' : FT), CI 115 Z' (toF tqN_99) g' A' → G Γ M_L_tables (rm M_L_tables) W (16617, 139245) 924 [some (.ref 800000), some (.int ((-73))), some (.int (nI 15))] [.int (nI 0)] Z') : G Γ M_L_tables (rm M_L_tables) W (16615, 139233) 924 [some (.ref 800000), some (.int ((-73))), some (.int (nI 14))] [.int (nI 0)] Z := by
  refine G_if_eq (pc := 924) (tgt := 929) dL_tables_924 (by decide) (fun _ => ?_) (fun h => absurd h (by decide))
  refine G_iincN (pc := 929) dL_tables_929 rfl (by decide) ?_
  show G _ _ _ _ _ _ [some (.ref 800000), some (.int ((-73))), some (.int (nI 15))] [] _
  refine G_goto (pc := 932) (tgt := 911) dL_tables_932 (by decide) ?_
  refine G_iload_n (pc := 911) dL_tables_911 rfl ?_
  refine G_bipush (pc := 912) (v := nI 48) dL_tables_912 (by first | rfl | decide) ?_
  refine G_icmp_ge (pc := 914) (tgt := 935) dL_tables_914 (by decide) (fun h => absurd h (by decide)) (fun _ => ?_)
  refine G_aload_n (pc := 917) dL_tables_917 rfl ?_
  refine G_sipush (pc := 918) (v := nI 200) dL_tables_918 (by first | rfl | decide) ?_
  refine R_V (pc := 921) (k' := (16617, 139245)) mok_X9_pass lk_L_26 (sh_k h.1) rfl rfl rfl rfl (aok0 rfl) dL_tables_921 (k_pass h (by decide) (m := 200) (t := 3233) (by decide +kernel) ⟨by decide, by decide, by decide⟩) (by decide) (by decide +kernel) rfl (fun Y' q => ?_)
  obtain ⟨-, g', A', h'⟩ := q
  refine G_val (w := nI 0) (by decide +kernel) ?_
  exact kk _ _ _ (CI_frz h' (by decide +kernel) (by decide +kernel))
theorem tq_115 {Γ : GTy} (hG : GS Γ) {W : WTy} {Z : HS} {g : GN} {A : FT} (h : CI 115 Z (toF tqN_99) g A) (kk : ∀ (Z' : HS) (g' : GN) (A' : FT), CI 116 Z' (toF tqN_100) g' A' → G Γ M_L_tables (rm M_L_tables) W (16619, 139257) 924 [some (.ref 800000), some (.int ((-73))), some (.int (nI 16))] [.int (nI 0)] Z') : G Γ M_L_tables (rm M_L_tables) W (16617, 139245) 924 [some (.ref 800000), some (.int ((-73))), some (.int (nI 15))] [.int (nI 0)] Z := by
  refine G_if_eq (pc := 924) (tgt := 929) dL_tables_924 (by decide) (fun _ => ?_) (fun h => absurd h (by decide))
  refine G_iincN (pc := 929) dL_tables_929 rfl (by decide) ?_
  show G _ _ _ _ _ _ [some (.ref 800000), some (.int ((-73))), some (.int (nI 16))] [] _
  refine G_goto (pc := 932) (tgt := 911) dL_tables_932 (by decide) ?_
  refine G_iload_n (pc := 911) dL_tables_911 rfl ?_
  refine G_bipush (pc := 912) (v := nI 48) dL_tables_912 (by first | rfl | decide) ?_
  refine G_icmp_ge (pc := 914) (tgt := 935) dL_tables_914 (by decide) (fun h => absurd h (by decide)) (fun _ => ?_)
  refine G_aload_n (pc := 917) dL_tables_917 rfl ?_
  refine G_sipush (pc := 918) (v := nI 200) dL_tables_918 (by first | rfl | decide) ?_
  refine R_V (pc := 921) (k' := (16619, 139257)) mok_X9_pass lk_L_26 (sh_k h.1) rfl rfl rfl rfl (aok0 rfl) dL_tables_921 (k_pass h (by decide) (m := 200) (t := 3433) (by decide +kernel) ⟨by decide, by decide, by decide⟩) (by decide) (by decide +kernel) rfl (fun Y' q => ?_)
  obtain ⟨-, g', A', h'⟩ := q
  refine G_val (w := nI 0) (by decide +kernel) ?_
  exact kk _ _ _ (CI_frz h' (by decide +kernel) (by decide +kernel))
theorem tq_116 {Γ : GTy} (hG : GS Γ) {W : WTy} {Z : HS} {g : GN} {A : FT} (h : CI 116 Z (toF tqN_100) g A) (kk : ∀ (Z' : HS) (g' : GN) (A' : FT), CI 117 Z' (toF tqN_101) g' A' → G Γ M_L_tables (rm M_L_tables) W (16621, 139269) 924 [some (.ref 800000), some (.int ((-73))), some (.int (nI 17))] [.int (nI 0)] Z') : G Γ M_L_tables (rm M_L_tables) W (16619, 139257) 924 [some (.ref 800000), some (.int ((-73))), some (.int (nI 16))] [.int (nI 0)] Z := by
  refine G_if_eq (pc := 924) (tgt := 929) dL_tables_924 (by decide) (fun _ => ?_) (fun h => absurd h (by decide))
  refine G_iincN (pc := 929) dL_tables_929 rfl (by decide) ?_
  show G _ _ _ _ _ _ [some (.ref 800000), some (.int ((-73))), some (.int (nI 17))] [] _
  refine G_goto (pc := 932) (tgt := 911) dL_tables_932 (by decide) ?_
  refine G_iload_n (pc := 911) dL_tables_911 rfl ?_
  refine G_bipush (pc := 912) (v := nI 48) dL_tables_912 (by first | rfl | decide) ?_
  refine G_icmp_ge (pc := 914) (tgt := 935) dL_tables_914 (by decide) (fun h => absurd h (by decide)) (fun _ => ?_)
  refine G_aload_n (pc := 917) dL_tables_917 rfl ?_
  refine G_sipush (pc := 918) (v := nI 200) dL_tables_918 (by first | rfl | decide) ?_
  refine R_V (pc := 921) (k' := (16621, 139269)) mok_X9_pass lk_L_26 (sh_k h.1) rfl rfl rfl rfl (aok0 rfl) dL_tables_921 (k_pass h (by decide) (m := 200) (t := 3633) (by decide +kernel) ⟨by decide, by decide, by decide⟩) (by decide) (by decide +kernel) rfl (fun Y' q => ?_)
  obtain ⟨-, g', A', h'⟩ := q
  refine G_val (w := nI 0) (by decide +kernel) ?_
  exact kk _ _ _ (CI_frz h' (by decide +kernel) (by decide +kernel))
theorem tq_117 {Γ : GTy} (hG : GS Γ) {W : WTy} {Z : HS} {g : GN} {A : FT} (h : CI 117 Z (toF tqN_101) g A) (kk : ∀ (Z' : HS) (g' : GN) (A' : FT), CI 118 Z' (toF tqN_102) g' A' → G Γ M_L_tables (rm M_L_tables) W (16623, 139281) 924 [some (.ref 800000), some (.int ((-73))), some (.int (nI 18))] [.int (nI 0)] Z') : G Γ M_L_tables (rm M_L_tables) W (16621, 139269) 924 [some (.ref 800000), some (.int ((-73))), some (.int (nI 17))] [.int (nI 0)] Z := by
  refine G_if_eq (pc := 924) (tgt := 929) dL_tables_924 (by decide) (fun _ => ?_) (fun h => absurd h (by decide))
  refine G_iincN (pc := 929) dL_tables_929 rfl (by decide) ?_
  show G _ _ _ _ _ _ [some (.ref 800000), some (.int ((-73))), some (.int (nI 18))] [] _
  refine G_goto (pc := 932) (tgt := 911) dL_tables_932 (by decide) ?_
  refine G_iload_n (pc := 911) dL_tables_911 rfl ?_
  refine G_bipush (pc := 912) (v := nI 48) dL_tables_912 (by first | rfl | decide) ?_
  refine G_icmp_ge (pc := 914) (tgt := 935) dL_tables_914 (by decide) (fun h => absurd h (by decide)) (fun _ => ?_)
  refine G_aload_n (pc := 917) dL_tables_917 rfl ?_
  refine G_sipush (pc := 918) (v := nI 200) dL_tables_918 (by first | rfl | decide) ?_
  refine R_V (pc := 921) (k' := (16623, 139281)) mok_X9_pass lk_L_26 (sh_k h.1) rfl rfl rfl rfl (aok0 rfl) dL_tables_921 (k_pass h (by decide) (m := 200) (t := 3833) (by decide +kernel) ⟨by decide, by decide, by decide⟩) (by decide) (by decide +kernel) rfl (fun Y' q => ?_)
  obtain ⟨-, g', A', h'⟩ := q
  refine G_val (w := nI 0) (by decide +kernel) ?_
  exact kk _ _ _ (CI_frz h' (by decide +kernel) (by decide +kernel))
theorem tq_118 {Γ : GTy} (hG : GS Γ) {W : WTy} {Z : HS} {g : GN} {A : FT} (h : CI 118 Z (toF tqN_102) g A) (kk : ∀ (Z' : HS) (g' : GN) (A' : FT), CI 119 Z' (toF tqN_103) g' A' → G Γ M_L_tables (rm M_L_tables) W (16625, 139293) 924 [some (.ref 800000), some (.int ((-73))), some (.int (nI 19))] [.int (nI 0)] Z') : G Γ M_L_tables (rm M_L_tables) W (16623, 139281) 924 [some (.ref 800000), some (.int ((-73))), some (.int (nI 18))] [.int (nI 0)] Z := by
  refine G_if_eq (pc := 924) (tgt := 929) dL_tables_924 (by decide) (fun _ => ?_) (fun h => absurd h (by decide))
  refine G_iincN (pc := 929) dL_tables_929 rfl (by decide) ?_
  show G _ _ _ _ _ _ [some (.ref 800000), some (.int ((-73))), some (.int (nI 19))] [] _
  refine G_goto (pc := 932) (tgt := 911) dL_tables_932 (by decide) ?_
  refine G_iload_n (pc := 911) dL_tables_911 rfl ?_
  refine G_bipush (pc := 912) (v := nI 48) dL_tables_912 (by first | rfl | decide) ?_
  refine G_icmp_ge (pc := 914) (tgt := 935) dL_tables_914 (by decide) (fun h => absurd h (by decide)) (fun _ => ?_)
  refine G_aload_n (pc := 917) dL_tables_917 rfl ?_
  refine G_sipush (pc := 918) (v := nI 200) dL_tables_918 (by first | rfl | decide) ?_
  refine R_V (pc := 921) (k' := (16625, 139293)) mok_X9_pass lk_L_26 (sh_k h.1) rfl rfl rfl rfl (aok0 rfl) dL_tables_921 (k_pass h (by decide) (m := 200) (t := 4033) (by decide +kernel) ⟨by decide, by decide, by decide⟩) (by decide) (by decide +kernel) rfl (fun Y' q => ?_)
  obtain ⟨-, g', A', h'⟩ := q
  refine G_val (w := nI 0) (by decide +kernel) ?_
  exact kk _ _ _ (CI_frz h' (by decide +kernel) (by decide +kernel))
theorem tq_119 {Γ : GTy} (hG : GS Γ) {W : WTy} {Z : HS} {g : GN} {A : FT} (h : CI 119 Z (toF tqN_103) g A) (kk : ∀ (Z' : HS) (g' : GN) (A' : FT), CI 120 Z' (toF tqN_104) g' A' → G Γ M_L_tables (rm M_L_tables) W (16627, 139305) 924 [some (.ref 800000), some (.int ((-73))), some (.int (nI 20))] [.int (nI 0)] Z') : G Γ M_L_tables (rm M_L_tables) W (16625, 139293) 924 [some (.ref 800000), some (.int ((-73))), some (.int (nI 19))] [.int (nI 0)] Z := by
  refine G_if_eq (pc := 924) (tgt := 929) dL_tables_924 (by decide) (fun _ => ?_) (fun h => absurd h (by decide))
  refine G_iincN (pc := 929) dL_tables_929 rfl (by decide) ?_
  show G _ _ _ _ _ _ [some (.ref 800000), some (.int ((-73))), some (.int (nI 20))] [] _
  refine G_goto (pc := 932) (tgt := 911) dL_tables_932 (by decide) ?_
  refine G_iload_n (pc := 911) dL_tables_911 rfl ?_
  refine G_bipush (pc := 912) (v := nI 48) dL_tables_912 (by first | rfl | decide) ?_
  refine G_icmp_ge (pc := 914) (tgt := 935) dL_tables_914 (by decide) (fun h => absurd h (by decide)) (fun _ => ?_)
  refine G_aload_n (pc := 917) dL_tables_917 rfl ?_
  refine G_sipush (pc := 918) (v := nI 200) dL_tables_918 (by first | rfl | decide) ?_
  refine R_V (pc := 921) (k' := (16627, 139305)) mok_X9_pass lk_L_26 (sh_k h.1) rfl rfl rfl rfl (aok0 rfl) dL_tables_921 (k_pass h (by decide) (m := 200) (t := 4233) (by decide +kernel) ⟨by decide, by decide, by decide⟩) (by decide) (by decide +kernel) rfl (fun Y' q => ?_)
  obtain ⟨-, g', A', h'⟩ := q
  refine G_val (w := nI 0) (by decide +kernel) ?_
  exact kk _ _ _ (CI_frz h' (by decide +kernel) (by decide +kernel))
