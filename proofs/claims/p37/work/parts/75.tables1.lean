-- ===== tables: stretches 40 to 79 =====
theorem tq_40 {Γ : GTy} (hG : GS Γ) {W : WTy} {Z : HS} {g : GN} {A : FT} (h : CI 40 Z (toF tqN_25) g A) (kk : ∀ (Z' : HS) (g' : GN) (A' : FT), CI 41 Z' (toF tqN_26) g' A' → G Γ M_L_tables (rm M_L_tables) W (10958, 92559) 764 [some (.ref 800000), some (.int ((-73))), none] [.int (nI 1)] Z') : G Γ M_L_tables (rm M_L_tables) W (10951, 92518) 733 [some (.ref 800000), some (.int ((-73))), none] [.int (nI 50)] Z := by
  refine G_bipush (pc := 733) (v := nI 50) dL_tables_733 (by first | rfl | decide) ?_
  refine G_icmp_ne (pc := 735) (tgt := 832) dL_tables_735 (by decide) (fun h => absurd h (by decide)) (fun _ => ?_)
  refine G_aload_n (pc := 738) dL_tables_738 rfl ?_
  refine G_iconst (pc := 739) (v := nI 2) dL_tables_739 (by first | rfl | decide) ?_
  refine G_bipush (pc := 740) (v := nI 70) dL_tables_740 (by first | rfl | decide) ?_
  refine R_S (pc := 742) (k' := (10953, 92530)) (as := [.ref 800000, .int (nI 2), .int (nI 70)]) mok_L_owe lk_L_136 rfl rfl rfl (aok0 rfl) dL_tables_742 (C_owe h (by decide) (by decide +kernel)) rfl (fun v Y' q => ?_)
  obtain ⟨rfl, rfl⟩ := q
  show G _ _ _ _ _ _ _ (_ :: _) _
  refine G_if_eq (pc := 745) (tgt := 832) dL_tables_745 (by decide) (fun h => absurd h (by decide)) (fun _ => ?_)
  refine G_aload_n (pc := 748) dL_tables_748 rfl ?_
  refine G_iconst (pc := 749) (v := nI 0) dL_tables_749 (by first | rfl | decide) ?_
  refine R_V (pc := 750) (k' := (10954, 92536)) mok_X9_state lk_L_77 (sh_k h.1) rfl rfl rfl rfl (aok0 rfl) dL_tables_750 (t_state h (f := 0) (fr_lt h (m := 2) (by decide +kernel) ⟨by decide, by decide⟩)) (by decide) u2_e rfl (fun Y' q => ?_)
  subst q
  refine G_val (w := nI 1) (by decide +kernel) ?_
  refine G_iconst (pc := 753) (v := nI 1) dL_tables_753 (by first | rfl | decide) ?_
  refine G_icmp_ne (pc := 754) (tgt := 832) dL_tables_754 (by decide) (fun h => absurd h (by decide)) (fun _ => ?_)
  refine G_aload_n (pc := 757) dL_tables_757 rfl ?_
  refine G_iconst (pc := 758) (v := nI 2) dL_tables_758 (by first | rfl | decide) ?_
  refine G_bipush (pc := 759) (v := nI 7) dL_tables_759 (by first | rfl | decide) ?_
  refine R_V (pc := 761) (k' := (10958, 92559)) mok_X9_rent lk_L_13 (sh_k h.1) rfl rfl rfl rfl (by exact (fun _ => ⟨rfl, fun r hr => by rw [List.mem_singleton.mp (show r ∈ [800000] from hr), sh_k h.1]; decide, fun _ hr => nomatch hr⟩)) dL_tables_761 (m_rent h (by decide) (t := 2) (c := 7) (by decide) (by decide)) (by decide) (by decide +kernel) rfl (fun Y' q => ?_)
  obtain ⟨-, g', A', h'⟩ := q
  refine G_val (w := nI 1) (by decide +kernel) ?_
  exact kk _ _ _ (CI_frz h' (by decide +kernel) (by decide +kernel))
theorem tq_41 {Γ : GTy} (hG : GS Γ) {W : WTy} {Z : HS} {g : GN} {A : FT} (h : CI 41 Z (toF tqN_26) g A) (kk : ∀ (Z' : HS) (g' : GN) (A' : FT), CI 42 Z' (toF tqN_27) g' A' → G Γ M_L_tables (rm M_L_tables) W (10960, 92571) 775 [some (.ref 800000), some (.int ((-73))), none] [.int (nI 200)] Z') : G Γ M_L_tables (rm M_L_tables) W (10958, 92559) 764 [some (.ref 800000), some (.int ((-73))), none] [.int (nI 1)] Z := by
  refine G_iconst (pc := 764) (v := nI 1) dL_tables_764 (by first | rfl | decide) ?_
  refine G_icmp_ne (pc := 765) (tgt := 832) dL_tables_765 (by decide) (fun h => absurd h (by decide)) (fun _ => ?_)
  refine G_aload_n (pc := 768) dL_tables_768 rfl ?_
  refine G_sipush (pc := 769) (v := nI 200) dL_tables_769 (by first | rfl | decide) ?_
  refine R_V (pc := 772) (k' := (10960, 92571)) mok_X9_pass lk_L_26 (sh_k h.1) rfl rfl rfl rfl (aok0 rfl) dL_tables_772 (k_pass h (by decide) (m := 200) (t := 32) (by decide +kernel) ⟨by decide, by decide, by decide⟩) (by decide) (by decide +kernel) rfl (fun Y' q => ?_)
  obtain ⟨-, g', A', h'⟩ := q
  refine G_val (w := nI 200) (by decide +kernel) ?_
  exact kk _ _ _ (CI_frz h' (by decide +kernel) (by decide +kernel))
theorem tq_42 {Γ : GTy} (hG : GS Γ) {W : WTy} {Z : HS} {g : GN} {A : FT} (h : CI 42 Z (toF tqN_27) g A) (kk : ∀ (Z' : HS) (g' : GN) (A' : FT), CI 43 Z' (toF tqN_28) g' A' → G Γ M_L_tables (rm M_L_tables) W (10962, 92583) 786 [some (.ref 800000), some (.int ((-73))), none] [.int (nI 1)] Z') : G Γ M_L_tables (rm M_L_tables) W (10960, 92571) 775 [some (.ref 800000), some (.int ((-73))), none] [.int (nI 200)] Z := by
  refine G_sipush (pc := 775) (v := nI 200) dL_tables_775 (by first | rfl | decide) ?_
  refine G_icmp_ne (pc := 778) (tgt := 832) dL_tables_778 (by decide) (fun h => absurd h (by decide)) (fun _ => ?_)
  refine G_aload_n (pc := 781) dL_tables_781 rfl ?_
  refine G_iconst (pc := 782) (v := nI 1) dL_tables_782 (by first | rfl | decide) ?_
  refine R_V (pc := 783) (k' := (10962, 92583)) mok_X9_pass lk_L_26 (sh_k h.1) rfl rfl rfl rfl (aok0 rfl) dL_tables_783 (k_pass h (by decide) (m := 1) (t := 232) (by decide +kernel) ⟨by decide, by decide, by decide⟩) (by decide) (by decide +kernel) rfl (fun Y' q => ?_)
  obtain ⟨-, g', A', h'⟩ := q
  refine G_val (w := nI 1) (by decide +kernel) ?_
  exact kk _ _ _ (CI_frz h' (by decide +kernel) (by decide +kernel))
theorem tq_43 {Γ : GTy} (hG : GS Γ) {W : WTy} {Z : HS} {g : GN} {A : FT} (h : CI 43 Z (toF tqN_28) g A) (kk : ∀ (Z' : HS) (g' : GN) (A' : FT), CI 44 Z' (toF tqN_29) g' A' → G Γ M_L_tables (rm M_L_tables) W (10965, 92601) 806 [some (.ref 800000), some (.int ((-73))), none] [.int (nI 1050)] Z') : G Γ M_L_tables (rm M_L_tables) W (10962, 92583) 786 [some (.ref 800000), some (.int ((-73))), none] [.int (nI 1)] Z := by
  refine G_iconst (pc := 786) (v := nI 1) dL_tables_786 (by first | rfl | decide) ?_
  refine G_icmp_ne (pc := 787) (tgt := 832) dL_tables_787 (by decide) (fun h => absurd h (by decide)) (fun _ => ?_)
  refine G_aload_n (pc := 790) dL_tables_790 rfl ?_
  refine G_iconst (pc := 791) (v := nI 2) dL_tables_791 (by first | rfl | decide) ?_
  refine R_V (pc := 792) (k' := (10963, 92589)) mok_X9_clock lk_L_56 (sh_k h.1) rfl rfl rfl rfl (aok0 rfl) dL_tables_792 (t_clock h (t := 2) (by decide)) (by decide) u2_e rfl (fun Y' q => ?_)
  subst q
  refine G_val (w := nI 201) (by decide +kernel) ?_
  refine G_sipush (pc := 795) (v := nI 201) dL_tables_795 (by first | rfl | decide) ?_
  refine G_icmp_ne (pc := 798) (tgt := 832) dL_tables_798 (by decide) (fun h => absurd h (by decide)) (fun _ => ?_)
  refine G_aload_n (pc := 801) dL_tables_801 rfl ?_
  refine G_iconst (pc := 802) (v := nI 2) dL_tables_802 (by first | rfl | decide) ?_
  refine R_V (pc := 803) (k' := (10965, 92601)) mok_X9_end lk_L_17 (sh_k h.1) rfl rfl rfl rfl (aok0 rfl) dL_tables_803 (k_end h (by decide) (t := 2) (r := 8) (k := 0) (by decide) (by decide +kernel) (by decide +kernel) ⟨by decide, by decide⟩) (by decide) (by decide +kernel) rfl (fun Y' q => ?_)
  obtain ⟨-, g', A', h'⟩ := q
  refine G_val (w := nI 1050) (by decide +kernel) ?_
  exact kk _ _ _ (CI_frz h' (by decide +kernel) (by decide +kernel))
theorem tq_44 {Γ : GTy} (hG : GS Γ) {W : WTy} {Z : HS} {g : GN} {A : FT} (h : CI 44 Z (toF tqN_29) g A) (kk : ∀ (Z' : HS) (g' : GN) (A' : FT), CI 45 Z' (toF tqN_30) g' A' → G Γ M_L_tables (rm M_L_tables) W (16279, 136713) 855 [some (.ref 800000), some (.int ((-73))), some (.int (nI 2))] [.int (nI 2)] Z') : G Γ M_L_tables (rm M_L_tables) W (10965, 92601) 806 [some (.ref 800000), some (.int ((-73))), none] [.int (nI 1050)] Z := by
  refine G_sipush (pc := 806) (v := nI 1050) dL_tables_806 (by first | rfl | decide) ?_
  refine G_icmp_ne (pc := 809) (tgt := 832) dL_tables_809 (by decide) (fun h => absurd h (by decide)) (fun _ => ?_)
  refine G_aload_n (pc := 812) dL_tables_812 rfl ?_
  refine G_bipush (pc := 813) (v := nI 7) dL_tables_813 (by first | rfl | decide) ?_
  refine G_sipush (pc := 815) (v := nI 1050) dL_tables_815 (by first | rfl | decide) ?_
  refine R_S (pc := 818) (k' := (10967, 92613)) (as := [.ref 800000, .int (nI 7), .int (nI 1050)]) mok_L_owe lk_L_136 rfl rfl rfl (aok0 rfl) dL_tables_818 (C_owe h (by decide) (by decide +kernel)) rfl (fun v Y' q => ?_)
  obtain ⟨rfl, rfl⟩ := q
  show G _ _ _ _ _ _ _ (_ :: _) _
  refine G_if_eq (pc := 821) (tgt := 832) dL_tables_821 (by decide) (fun h => absurd h (by decide)) (fun _ => ?_)
  refine G_aload_n (pc := 824) dL_tables_824 rfl ?_
  refine G_iconst (pc := 825) (v := nI 2) dL_tables_825 (by first | rfl | decide) ?_
  refine R_S (pc := 826) (k' := (16267, 136613)) (as := [.ref 800000, .int (nI 2)]) mok_L_refuses lk_L_132 rfl rfl rfl (by exact (fun _ => ⟨rfl, fun r hr => by rw [List.mem_singleton.mp (show r ∈ [800000] from hr), sh_k h.1]; decide, fun _ hr => nomatch hr⟩)) dL_tables_826 (k_refuses h (m := 2) (by decide +kernel) (by decide)) rfl (fun v Y' q => ?_)
  obtain ⟨rfl, rfl⟩ := q
  show G _ _ _ _ _ _ _ (_ :: _) _
  refine G_if_ne (pc := 829) (tgt := 834) dL_tables_829 (by decide) (fun _ => ?_) (fun h => absurd h (by decide))
  refine G_iconst (pc := 834) (v := nI 2) dL_tables_834 (by first | rfl | decide) ?_
  refine G_istore_n (pc := 835) dL_tables_835 (by decide) ?_
  refine G_iload_n (pc := 836) dL_tables_836 rfl ?_
  refine G_bipush (pc := 837) (v := nI 21) dL_tables_837 (by first | rfl | decide) ?_
  refine G_icmp_ge (pc := 839) (tgt := 909) dL_tables_839 (by decide) (fun h => absurd h (by decide)) (fun _ => ?_)
  refine G_aload_n (pc := 842) dL_tables_842 rfl ?_
  refine G_bipush (pc := 843) (v := nI 6) dL_tables_843 (by first | rfl | decide) ?_
  refine G_iconst (pc := 845) (v := nI 0) dL_tables_845 (by first | rfl | decide) ?_
  refine G_iload_n (pc := 846) dL_tables_846 rfl ?_
  refine G_bipush (pc := 847) (v := nI 7) dL_tables_847 (by first | rfl | decide) ?_
  refine G_iremN (pc := 849) (by omega) (by omega) (by omega) dL_tables_849 ?_
  refine G_val (w := nI 2) (by decide) ?_
  refine G_bipush (pc := 850) (v := nI 7) dL_tables_850 (by first | rfl | decide) ?_
  refine K_SW5 (pc := 852) (k' := (16279, 136713)) mok_L_act lk_L_122 rfl (by exact (fun _ => ⟨rfl, fun r hr => by rw [List.mem_singleton.mp (show r ∈ [800000] from hr), sh_k h.1]; decide, fun _ hr => nomatch hr⟩)) dL_tables_852 (act_6 (QV' := QA 44 _ _ (nI 2)) (x := nI 0) (y := nI 2) (z := nI 7) h.1 (k_begin hG h (by decide) (t := 0) (a := 2) (c := 7) (z := nI 1) (m := 2) (by decide) (by decide) (by decide) (Or.inr rfl) (by decide +kernel) (by decide)) es_5 (fun Z' _ q => ⟨congrArg (fun t => some (Value.int t)) (by decide +kernel), q⟩) (fun i E Z' q1 q2 _ => no_x (by decide) (by decide +kernel) q1 q2)) rfl (fun v Y' q => ?_) (fun E Y' q => q.elim)
  obtain ⟨rfl, -, g', A', h'⟩ := q
  show G _ _ _ _ _ _ _ (_ :: _) _
  exact kk _ _ _ (CI_frz h' (by decide +kernel) (by decide +kernel))
theorem tq_45 {Γ : GTy} (hG : GS Γ) {W : WTy} {Z : HS} {g : GN} {A : FT} (h : CI 45 Z (toF tqN_30) g A) (kk : ∀ (Z' : HS) (g' : GN) (A' : FT), CI 46 Z' (toF tqN_31) g' A' → G Γ M_L_tables (rm M_L_tables) W (16281, 136725) 880 [some (.ref 800000), some (.int ((-73))), some (.int (nI 2))] [.int (nI 0)] Z') : G Γ M_L_tables (rm M_L_tables) W (16279, 136713) 855 [some (.ref 800000), some (.int ((-73))), some (.int (nI 2))] [.int (nI 2)] Z := by
  refine G_iload_n (pc := 855) dL_tables_855 rfl ?_
  refine G_bipush (pc := 856) (v := nI 20) dL_tables_856 (by first | rfl | decide) ?_
  refine G_icmp_ge (pc := 858) (tgt := 865) dL_tables_858 (by decide) (fun h => absurd h (by decide)) (fun _ => ?_)
  refine G_iload_n (pc := 861) dL_tables_861 rfl ?_
  refine G_goto (pc := 862) (tgt := 866) dL_tables_862 (by decide) ?_
  refine G_icmp_ne (pc := 866) (tgt := 901) dL_tables_866 (by decide) (fun h => absurd h (by decide)) (fun _ => ?_)
  refine G_iload_n (pc := 869) dL_tables_869 rfl ?_
  refine G_bipush (pc := 870) (v := nI 20) dL_tables_870 (by first | rfl | decide) ?_
  refine G_icmp_ge (pc := 872) (tgt := 903) dL_tables_872 (by decide) (fun h => absurd h (by decide)) (fun _ => ?_)
  refine G_aload_n (pc := 875) dL_tables_875 rfl ?_
  refine G_iconst (pc := 876) (v := nI 0) dL_tables_876 (by first | rfl | decide) ?_
  refine R_V (pc := 877) (k' := (16281, 136725)) mok_X9_tear lk_L_20 (sh_k h.1) rfl rfl rfl rfl (aok0 rfl) dL_tables_877 (k_tear h (by decide) (t := 0) (r := 0) (k := 3) (by decide) (by decide +kernel) (by decide +kernel) ⟨by decide, by decide⟩) (by decide) (by decide +kernel) rfl (fun Y' q => ?_)
  obtain ⟨-, g', A', h'⟩ := q
  refine G_val (w := nI 0) (by decide +kernel) ?_
  exact kk _ _ _ (CI_frz h' (by decide +kernel) (by decide +kernel))
theorem tq_46 {Γ : GTy} (hG : GS Γ) {W : WTy} {Z : HS} {g : GN} {A : FT} (h : CI 46 Z (toF tqN_31) g A) (kk : ∀ (Z' : HS) (g' : GN) (A' : FT), CI 47 Z' (toF tqN_32) g' A' → G Γ M_L_tables (rm M_L_tables) W (16283, 136737) 888 [some (.ref 800000), some (.int ((-73))), some (.int (nI 2))] [.int (nI 3)] Z') : G Γ M_L_tables (rm M_L_tables) W (16281, 136725) 880 [some (.ref 800000), some (.int ((-73))), some (.int (nI 2))] [.int (nI 0)] Z := by
  refine G_if_ne (pc := 880) (tgt := 901) dL_tables_880 (by decide) (fun h => absurd h (by decide)) (fun _ => ?_)
  refine G_aload_n (pc := 883) dL_tables_883 rfl ?_
  refine G_iconst (pc := 884) (v := nI 0) dL_tables_884 (by first | rfl | decide) ?_
  refine R_V (pc := 885) (k' := (16283, 136737)) mok_X9_mend lk_L_23 (sh_k h.1) rfl rfl rfl rfl (aok0 rfl) dL_tables_885 (m_mend h (by decide) (t := 0) (by decide)) (by decide) (by decide +kernel) rfl (fun Y' q => ?_)
  obtain ⟨-, g', A', h'⟩ := q
  refine G_val (w := nI 3) (by decide +kernel) ?_
  exact kk _ _ _ (CI_frz h' (by decide +kernel) (by decide +kernel))
theorem tq_47 {Γ : GTy} (hG : GS Γ) {W : WTy} {Z : HS} {g : GN} {A : FT} (h : CI 47 Z (toF tqN_32) g A) (kk : ∀ (Z' : HS) (g' : GN) (A' : FT), CI 48 Z' (toF tqN_33) g' A' → G Γ M_L_tables (rm M_L_tables) W (16296, 136843) 855 [some (.ref 800000), some (.int ((-73))), some (.int (nI 3))] [.int (nI 3)] Z') : G Γ M_L_tables (rm M_L_tables) W (16283, 136737) 888 [some (.ref 800000), some (.int ((-73))), some (.int (nI 2))] [.int (nI 3)] Z := by
  refine G_iconst (pc := 888) (v := nI 3) dL_tables_888 (by first | rfl | decide) ?_
  refine G_icmp_ne (pc := 889) (tgt := 901) dL_tables_889 (by decide) (fun h => absurd h (by decide)) (fun _ => ?_)
  refine G_aload_n (pc := 892) dL_tables_892 rfl ?_
  refine G_iload_n (pc := 893) dL_tables_893 rfl ?_
  refine R_V (pc := 894) (k' := (16284, 136743)) mok_X9_state lk_L_77 (sh_k h.1) rfl rfl rfl rfl (aok0 rfl) dL_tables_894 (t_state h (f := 2) (fr_lt h (m := 3) (by decide +kernel) ⟨by decide, by decide⟩)) (by decide) u2_e rfl (fun Y' q => ?_)
  subst q
  refine G_val (w := nI 1) (by decide +kernel) ?_
  refine G_iconst (pc := 897) (v := nI 1) dL_tables_897 (by first | rfl | decide) ?_
  refine G_icmp_eq (pc := 898) (tgt := 903) dL_tables_898 (by decide) (fun _ => ?_) (fun h => absurd h (by decide))
  refine G_iincN (pc := 903) dL_tables_903 rfl (by decide) ?_
  show G _ _ _ _ _ _ [some (.ref 800000), some (.int ((-73))), some (.int (nI 3))] [] _
  refine G_goto (pc := 906) (tgt := 836) dL_tables_906 (by decide) ?_
  refine G_iload_n (pc := 836) dL_tables_836 rfl ?_
  refine G_bipush (pc := 837) (v := nI 21) dL_tables_837 (by first | rfl | decide) ?_
  refine G_icmp_ge (pc := 839) (tgt := 909) dL_tables_839 (by decide) (fun h => absurd h (by decide)) (fun _ => ?_)
  refine G_aload_n (pc := 842) dL_tables_842 rfl ?_
  refine G_bipush (pc := 843) (v := nI 6) dL_tables_843 (by first | rfl | decide) ?_
  refine G_iconst (pc := 845) (v := nI 0) dL_tables_845 (by first | rfl | decide) ?_
  refine G_iload_n (pc := 846) dL_tables_846 rfl ?_
  refine G_bipush (pc := 847) (v := nI 7) dL_tables_847 (by first | rfl | decide) ?_
  refine G_iremN (pc := 849) (by omega) (by omega) (by omega) dL_tables_849 ?_
  refine G_val (w := nI 3) (by decide) ?_
  refine G_bipush (pc := 850) (v := nI 7) dL_tables_850 (by first | rfl | decide) ?_
  refine K_SW5 (pc := 852) (k' := (16296, 136843)) mok_L_act lk_L_122 rfl (by exact (fun _ => ⟨rfl, fun r hr => by rw [List.mem_singleton.mp (show r ∈ [800000] from hr), sh_k h.1]; decide, fun _ hr => nomatch hr⟩)) dL_tables_852 (act_6 (QV' := QA 47 _ _ (nI 3)) (x := nI 0) (y := nI 3) (z := nI 7) h.1 (k_begin hG h (by decide) (t := 0) (a := 3) (c := 7) (z := nI 1) (m := 3) (by decide) (by decide) (by decide) (Or.inr rfl) (by decide +kernel) (by decide)) es_5 (fun Z' _ q => ⟨congrArg (fun t => some (Value.int t)) (by decide +kernel), q⟩) (fun i E Z' q1 q2 _ => no_x (by decide) (by decide +kernel) q1 q2)) rfl (fun v Y' q => ?_) (fun E Y' q => q.elim)
  obtain ⟨rfl, -, g', A', h'⟩ := q
  show G _ _ _ _ _ _ _ (_ :: _) _
  exact kk _ _ _ (CI_frz h' (by decide +kernel) (by decide +kernel))
theorem tq_48 {Γ : GTy} (hG : GS Γ) {W : WTy} {Z : HS} {g : GN} {A : FT} (h : CI 48 Z (toF tqN_33) g A) (kk : ∀ (Z' : HS) (g' : GN) (A' : FT), CI 49 Z' (toF tqN_34) g' A' → G Γ M_L_tables (rm M_L_tables) W (16298, 136855) 880 [some (.ref 800000), some (.int ((-73))), some (.int (nI 3))] [.int (nI 0)] Z') : G Γ M_L_tables (rm M_L_tables) W (16296, 136843) 855 [some (.ref 800000), some (.int ((-73))), some (.int (nI 3))] [.int (nI 3)] Z := by
  refine G_iload_n (pc := 855) dL_tables_855 rfl ?_
  refine G_bipush (pc := 856) (v := nI 20) dL_tables_856 (by first | rfl | decide) ?_
  refine G_icmp_ge (pc := 858) (tgt := 865) dL_tables_858 (by decide) (fun h => absurd h (by decide)) (fun _ => ?_)
  refine G_iload_n (pc := 861) dL_tables_861 rfl ?_
  refine G_goto (pc := 862) (tgt := 866) dL_tables_862 (by decide) ?_
  refine G_icmp_ne (pc := 866) (tgt := 901) dL_tables_866 (by decide) (fun h => absurd h (by decide)) (fun _ => ?_)
  refine G_iload_n (pc := 869) dL_tables_869 rfl ?_
  refine G_bipush (pc := 870) (v := nI 20) dL_tables_870 (by first | rfl | decide) ?_
  refine G_icmp_ge (pc := 872) (tgt := 903) dL_tables_872 (by decide) (fun h => absurd h (by decide)) (fun _ => ?_)
  refine G_aload_n (pc := 875) dL_tables_875 rfl ?_
  refine G_iconst (pc := 876) (v := nI 0) dL_tables_876 (by first | rfl | decide) ?_
  refine R_V (pc := 877) (k' := (16298, 136855)) mok_X9_tear lk_L_20 (sh_k h.1) rfl rfl rfl rfl (aok0 rfl) dL_tables_877 (k_tear h (by decide) (t := 0) (r := 0) (k := 4) (by decide) (by decide +kernel) (by decide +kernel) ⟨by decide, by decide⟩) (by decide) (by decide +kernel) rfl (fun Y' q => ?_)
  obtain ⟨-, g', A', h'⟩ := q
  refine G_val (w := nI 0) (by decide +kernel) ?_
  exact kk _ _ _ (CI_frz h' (by decide +kernel) (by decide +kernel))
theorem tq_49 {Γ : GTy} (hG : GS Γ) {W : WTy} {Z : HS} {g : GN} {A : FT} (h : CI 49 Z (toF tqN_34) g A) (kk : ∀ (Z' : HS) (g' : GN) (A' : FT), CI 50 Z' (toF tqN_35) g' A' → G Γ M_L_tables (rm M_L_tables) W (16300, 136867) 888 [some (.ref 800000), some (.int ((-73))), some (.int (nI 3))] [.int (nI 3)] Z') : G Γ M_L_tables (rm M_L_tables) W (16298, 136855) 880 [some (.ref 800000), some (.int ((-73))), some (.int (nI 3))] [.int (nI 0)] Z := by
  refine G_if_ne (pc := 880) (tgt := 901) dL_tables_880 (by decide) (fun h => absurd h (by decide)) (fun _ => ?_)
  refine G_aload_n (pc := 883) dL_tables_883 rfl ?_
  refine G_iconst (pc := 884) (v := nI 0) dL_tables_884 (by first | rfl | decide) ?_
  refine R_V (pc := 885) (k' := (16300, 136867)) mok_X9_mend lk_L_23 (sh_k h.1) rfl rfl rfl rfl (aok0 rfl) dL_tables_885 (m_mend h (by decide) (t := 0) (by decide)) (by decide) (by decide +kernel) rfl (fun Y' q => ?_)
  obtain ⟨-, g', A', h'⟩ := q
  refine G_val (w := nI 3) (by decide +kernel) ?_
  exact kk _ _ _ (CI_frz h' (by decide +kernel) (by decide +kernel))
theorem tq_50 {Γ : GTy} (hG : GS Γ) {W : WTy} {Z : HS} {g : GN} {A : FT} (h : CI 50 Z (toF tqN_35) g A) (kk : ∀ (Z' : HS) (g' : GN) (A' : FT), CI 51 Z' (toF tqN_36) g' A' → G Γ M_L_tables (rm M_L_tables) W (16313, 136973) 855 [some (.ref 800000), some (.int ((-73))), some (.int (nI 4))] [.int (nI 4)] Z') : G Γ M_L_tables (rm M_L_tables) W (16300, 136867) 888 [some (.ref 800000), some (.int ((-73))), some (.int (nI 3))] [.int (nI 3)] Z := by
  refine G_iconst (pc := 888) (v := nI 3) dL_tables_888 (by first | rfl | decide) ?_
  refine G_icmp_ne (pc := 889) (tgt := 901) dL_tables_889 (by decide) (fun h => absurd h (by decide)) (fun _ => ?_)
  refine G_aload_n (pc := 892) dL_tables_892 rfl ?_
  refine G_iload_n (pc := 893) dL_tables_893 rfl ?_
  refine R_V (pc := 894) (k' := (16301, 136873)) mok_X9_state lk_L_77 (sh_k h.1) rfl rfl rfl rfl (aok0 rfl) dL_tables_894 (t_state h (f := 3) (fr_lt h (m := 4) (by decide +kernel) ⟨by decide, by decide⟩)) (by decide) u2_e rfl (fun Y' q => ?_)
  subst q
  refine G_val (w := nI 1) (by decide +kernel) ?_
  refine G_iconst (pc := 897) (v := nI 1) dL_tables_897 (by first | rfl | decide) ?_
  refine G_icmp_eq (pc := 898) (tgt := 903) dL_tables_898 (by decide) (fun _ => ?_) (fun h => absurd h (by decide))
  refine G_iincN (pc := 903) dL_tables_903 rfl (by decide) ?_
  show G _ _ _ _ _ _ [some (.ref 800000), some (.int ((-73))), some (.int (nI 4))] [] _
  refine G_goto (pc := 906) (tgt := 836) dL_tables_906 (by decide) ?_
  refine G_iload_n (pc := 836) dL_tables_836 rfl ?_
  refine G_bipush (pc := 837) (v := nI 21) dL_tables_837 (by first | rfl | decide) ?_
  refine G_icmp_ge (pc := 839) (tgt := 909) dL_tables_839 (by decide) (fun h => absurd h (by decide)) (fun _ => ?_)
  refine G_aload_n (pc := 842) dL_tables_842 rfl ?_
  refine G_bipush (pc := 843) (v := nI 6) dL_tables_843 (by first | rfl | decide) ?_
  refine G_iconst (pc := 845) (v := nI 0) dL_tables_845 (by first | rfl | decide) ?_
  refine G_iload_n (pc := 846) dL_tables_846 rfl ?_
  refine G_bipush (pc := 847) (v := nI 7) dL_tables_847 (by first | rfl | decide) ?_
  refine G_iremN (pc := 849) (by omega) (by omega) (by omega) dL_tables_849 ?_
  refine G_val (w := nI 4) (by decide) ?_
  refine G_bipush (pc := 850) (v := nI 7) dL_tables_850 (by first | rfl | decide) ?_
  refine K_SW5 (pc := 852) (k' := (16313, 136973)) mok_L_act lk_L_122 rfl (by exact (fun _ => ⟨rfl, fun r hr => by rw [List.mem_singleton.mp (show r ∈ [800000] from hr), sh_k h.1]; decide, fun _ hr => nomatch hr⟩)) dL_tables_852 (act_6 (QV' := QA 50 _ _ (nI 4)) (x := nI 0) (y := nI 4) (z := nI 7) h.1 (k_begin hG h (by decide) (t := 0) (a := 4) (c := 7) (z := nI 1) (m := 4) (by decide) (by decide) (by decide) (Or.inr rfl) (by decide +kernel) (by decide)) es_5 (fun Z' _ q => ⟨congrArg (fun t => some (Value.int t)) (by decide +kernel), q⟩) (fun i E Z' q1 q2 _ => no_x (by decide) (by decide +kernel) q1 q2)) rfl (fun v Y' q => ?_) (fun E Y' q => q.elim)
  obtain ⟨rfl, -, g', A', h'⟩ := q
  show G _ _ _ _ _ _ _ (_ :: _) _
  exact kk _ _ _ (CI_frz h' (by decide +kernel) (by decide +kernel))
theorem tq_51 {Γ : GTy} (hG : GS Γ) {W : WTy} {Z : HS} {g : GN} {A : FT} (h : CI 51 Z (toF tqN_36) g A) (kk : ∀ (Z' : HS) (g' : GN) (A' : FT), CI 52 Z' (toF tqN_37) g' A' → G Γ M_L_tables (rm M_L_tables) W (16315, 136985) 880 [some (.ref 800000), some (.int ((-73))), some (.int (nI 4))] [.int (nI 0)] Z') : G Γ M_L_tables (rm M_L_tables) W (16313, 136973) 855 [some (.ref 800000), some (.int ((-73))), some (.int (nI 4))] [.int (nI 4)] Z := by
  refine G_iload_n (pc := 855) dL_tables_855 rfl ?_
  refine G_bipush (pc := 856) (v := nI 20) dL_tables_856 (by first | rfl | decide) ?_
  refine G_icmp_ge (pc := 858) (tgt := 865) dL_tables_858 (by decide) (fun h => absurd h (by decide)) (fun _ => ?_)
  refine G_iload_n (pc := 861) dL_tables_861 rfl ?_
  refine G_goto (pc := 862) (tgt := 866) dL_tables_862 (by decide) ?_
  refine G_icmp_ne (pc := 866) (tgt := 901) dL_tables_866 (by decide) (fun h => absurd h (by decide)) (fun _ => ?_)
  refine G_iload_n (pc := 869) dL_tables_869 rfl ?_
  refine G_bipush (pc := 870) (v := nI 20) dL_tables_870 (by first | rfl | decide) ?_
  refine G_icmp_ge (pc := 872) (tgt := 903) dL_tables_872 (by decide) (fun h => absurd h (by decide)) (fun _ => ?_)
  refine G_aload_n (pc := 875) dL_tables_875 rfl ?_
  refine G_iconst (pc := 876) (v := nI 0) dL_tables_876 (by first | rfl | decide) ?_
  refine R_V (pc := 877) (k' := (16315, 136985)) mok_X9_tear lk_L_20 (sh_k h.1) rfl rfl rfl rfl (aok0 rfl) dL_tables_877 (k_tear h (by decide) (t := 0) (r := 0) (k := 5) (by decide) (by decide +kernel) (by decide +kernel) ⟨by decide, by decide⟩) (by decide) (by decide +kernel) rfl (fun Y' q => ?_)
  obtain ⟨-, g', A', h'⟩ := q
  refine G_val (w := nI 0) (by decide +kernel) ?_
  exact kk _ _ _ (CI_frz h' (by decide +kernel) (by decide +kernel))
theorem tq_52 {Γ : GTy} (hG : GS Γ) {W : WTy} {Z : HS} {g : GN} {A : FT} (h : CI 52 Z (toF tqN_37) g A) (kk : ∀ (Z' : HS) (g' : GN) (A' : FT), CI 53 Z' (toF tqN_38) g' A' → G Γ M_L_tables (rm M_L_tables) W (16317, 136997) 888 [some (.ref 800000), some (.int ((-73))), some (.int (nI 4))] [.int (nI 3)] Z') : G Γ M_L_tables (rm M_L_tables) W (16315, 136985) 880 [some (.ref 800000), some (.int ((-73))), some (.int (nI 4))] [.int (nI 0)] Z := by
  refine G_if_ne (pc := 880) (tgt := 901) dL_tables_880 (by decide) (fun h => absurd h (by decide)) (fun _ => ?_)
  refine G_aload_n (pc := 883) dL_tables_883 rfl ?_
  refine G_iconst (pc := 884) (v := nI 0) dL_tables_884 (by first | rfl | decide) ?_
  refine R_V (pc := 885) (k' := (16317, 136997)) mok_X9_mend lk_L_23 (sh_k h.1) rfl rfl rfl rfl (aok0 rfl) dL_tables_885 (m_mend h (by decide) (t := 0) (by decide)) (by decide) (by decide +kernel) rfl (fun Y' q => ?_)
  obtain ⟨-, g', A', h'⟩ := q
  refine G_val (w := nI 3) (by decide +kernel) ?_
  exact kk _ _ _ (CI_frz h' (by decide +kernel) (by decide +kernel))
theorem tq_53 {Γ : GTy} (hG : GS Γ) {W : WTy} {Z : HS} {g : GN} {A : FT} (h : CI 53 Z (toF tqN_38) g A) (kk : ∀ (Z' : HS) (g' : GN) (A' : FT), CI 54 Z' (toF tqN_39) g' A' → G Γ M_L_tables (rm M_L_tables) W (16330, 137103) 855 [some (.ref 800000), some (.int ((-73))), some (.int (nI 5))] [.int (nI 5)] Z') : G Γ M_L_tables (rm M_L_tables) W (16317, 136997) 888 [some (.ref 800000), some (.int ((-73))), some (.int (nI 4))] [.int (nI 3)] Z := by
  refine G_iconst (pc := 888) (v := nI 3) dL_tables_888 (by first | rfl | decide) ?_
  refine G_icmp_ne (pc := 889) (tgt := 901) dL_tables_889 (by decide) (fun h => absurd h (by decide)) (fun _ => ?_)
  refine G_aload_n (pc := 892) dL_tables_892 rfl ?_
  refine G_iload_n (pc := 893) dL_tables_893 rfl ?_
  refine R_V (pc := 894) (k' := (16318, 137003)) mok_X9_state lk_L_77 (sh_k h.1) rfl rfl rfl rfl (aok0 rfl) dL_tables_894 (t_state h (f := 4) (fr_lt h (m := 5) (by decide +kernel) ⟨by decide, by decide⟩)) (by decide) u2_e rfl (fun Y' q => ?_)
  subst q
  refine G_val (w := nI 1) (by decide +kernel) ?_
  refine G_iconst (pc := 897) (v := nI 1) dL_tables_897 (by first | rfl | decide) ?_
  refine G_icmp_eq (pc := 898) (tgt := 903) dL_tables_898 (by decide) (fun _ => ?_) (fun h => absurd h (by decide))
  refine G_iincN (pc := 903) dL_tables_903 rfl (by decide) ?_
  show G _ _ _ _ _ _ [some (.ref 800000), some (.int ((-73))), some (.int (nI 5))] [] _
  refine G_goto (pc := 906) (tgt := 836) dL_tables_906 (by decide) ?_
  refine G_iload_n (pc := 836) dL_tables_836 rfl ?_
  refine G_bipush (pc := 837) (v := nI 21) dL_tables_837 (by first | rfl | decide) ?_
  refine G_icmp_ge (pc := 839) (tgt := 909) dL_tables_839 (by decide) (fun h => absurd h (by decide)) (fun _ => ?_)
  refine G_aload_n (pc := 842) dL_tables_842 rfl ?_
  refine G_bipush (pc := 843) (v := nI 6) dL_tables_843 (by first | rfl | decide) ?_
  refine G_iconst (pc := 845) (v := nI 0) dL_tables_845 (by first | rfl | decide) ?_
  refine G_iload_n (pc := 846) dL_tables_846 rfl ?_
  refine G_bipush (pc := 847) (v := nI 7) dL_tables_847 (by first | rfl | decide) ?_
  refine G_iremN (pc := 849) (by omega) (by omega) (by omega) dL_tables_849 ?_
  refine G_val (w := nI 5) (by decide) ?_
  refine G_bipush (pc := 850) (v := nI 7) dL_tables_850 (by first | rfl | decide) ?_
  refine K_SW5 (pc := 852) (k' := (16330, 137103)) mok_L_act lk_L_122 rfl (by exact (fun _ => ⟨rfl, fun r hr => by rw [List.mem_singleton.mp (show r ∈ [800000] from hr), sh_k h.1]; decide, fun _ hr => nomatch hr⟩)) dL_tables_852 (act_6 (QV' := QA 53 _ _ (nI 5)) (x := nI 0) (y := nI 5) (z := nI 7) h.1 (k_begin hG h (by decide) (t := 0) (a := 5) (c := 7) (z := nI 1) (m := 5) (by decide) (by decide) (by decide) (Or.inr rfl) (by decide +kernel) (by decide)) es_5 (fun Z' _ q => ⟨congrArg (fun t => some (Value.int t)) (by decide +kernel), q⟩) (fun i E Z' q1 q2 _ => no_x (by decide) (by decide +kernel) q1 q2)) rfl (fun v Y' q => ?_) (fun E Y' q => q.elim)
  obtain ⟨rfl, -, g', A', h'⟩ := q
  show G _ _ _ _ _ _ _ (_ :: _) _
  exact kk _ _ _ (CI_frz h' (by decide +kernel) (by decide +kernel))
theorem tq_54 {Γ : GTy} (hG : GS Γ) {W : WTy} {Z : HS} {g : GN} {A : FT} (h : CI 54 Z (toF tqN_39) g A) (kk : ∀ (Z' : HS) (g' : GN) (A' : FT), CI 55 Z' (toF tqN_40) g' A' → G Γ M_L_tables (rm M_L_tables) W (16332, 137115) 880 [some (.ref 800000), some (.int ((-73))), some (.int (nI 5))] [.int (nI 0)] Z') : G Γ M_L_tables (rm M_L_tables) W (16330, 137103) 855 [some (.ref 800000), some (.int ((-73))), some (.int (nI 5))] [.int (nI 5)] Z := by
  refine G_iload_n (pc := 855) dL_tables_855 rfl ?_
  refine G_bipush (pc := 856) (v := nI 20) dL_tables_856 (by first | rfl | decide) ?_
  refine G_icmp_ge (pc := 858) (tgt := 865) dL_tables_858 (by decide) (fun h => absurd h (by decide)) (fun _ => ?_)
  refine G_iload_n (pc := 861) dL_tables_861 rfl ?_
  refine G_goto (pc := 862) (tgt := 866) dL_tables_862 (by decide) ?_
  refine G_icmp_ne (pc := 866) (tgt := 901) dL_tables_866 (by decide) (fun h => absurd h (by decide)) (fun _ => ?_)
  refine G_iload_n (pc := 869) dL_tables_869 rfl ?_
  refine G_bipush (pc := 870) (v := nI 20) dL_tables_870 (by first | rfl | decide) ?_
  refine G_icmp_ge (pc := 872) (tgt := 903) dL_tables_872 (by decide) (fun h => absurd h (by decide)) (fun _ => ?_)
  refine G_aload_n (pc := 875) dL_tables_875 rfl ?_
  refine G_iconst (pc := 876) (v := nI 0) dL_tables_876 (by first | rfl | decide) ?_
  refine R_V (pc := 877) (k' := (16332, 137115)) mok_X9_tear lk_L_20 (sh_k h.1) rfl rfl rfl rfl (aok0 rfl) dL_tables_877 (k_tear h (by decide) (t := 0) (r := 0) (k := 6) (by decide) (by decide +kernel) (by decide +kernel) ⟨by decide, by decide⟩) (by decide) (by decide +kernel) rfl (fun Y' q => ?_)
  obtain ⟨-, g', A', h'⟩ := q
  refine G_val (w := nI 0) (by decide +kernel) ?_
  exact kk _ _ _ (CI_frz h' (by decide +kernel) (by decide +kernel))
theorem tq_55 {Γ : GTy} (hG : GS Γ) {W : WTy} {Z : HS} {g : GN} {A : FT} (h : CI 55 Z (toF tqN_40) g A) (kk : ∀ (Z' : HS) (g' : GN) (A' : FT), CI 56 Z' (toF tqN_41) g' A' → G Γ M_L_tables (rm M_L_tables) W (16334, 137127) 888 [some (.ref 800000), some (.int ((-73))), some (.int (nI 5))] [.int (nI 3)] Z') : G Γ M_L_tables (rm M_L_tables) W (16332, 137115) 880 [some (.ref 800000), some (.int ((-73))), some (.int (nI 5))] [.int (nI 0)] Z := by
  refine G_if_ne (pc := 880) (tgt := 901) dL_tables_880 (by decide) (fun h => absurd h (by decide)) (fun _ => ?_)
  refine G_aload_n (pc := 883) dL_tables_883 rfl ?_
  refine G_iconst (pc := 884) (v := nI 0) dL_tables_884 (by first | rfl | decide) ?_
  refine R_V (pc := 885) (k' := (16334, 137127)) mok_X9_mend lk_L_23 (sh_k h.1) rfl rfl rfl rfl (aok0 rfl) dL_tables_885 (m_mend h (by decide) (t := 0) (by decide)) (by decide) (by decide +kernel) rfl (fun Y' q => ?_)
  obtain ⟨-, g', A', h'⟩ := q
  refine G_val (w := nI 3) (by decide +kernel) ?_
  exact kk _ _ _ (CI_frz h' (by decide +kernel) (by decide +kernel))
theorem tq_56 {Γ : GTy} (hG : GS Γ) {W : WTy} {Z : HS} {g : GN} {A : FT} (h : CI 56 Z (toF tqN_41) g A) (kk : ∀ (Z' : HS) (g' : GN) (A' : FT), CI 57 Z' (toF tqN_42) g' A' → G Γ M_L_tables (rm M_L_tables) W (16347, 137233) 855 [some (.ref 800000), some (.int ((-73))), some (.int (nI 6))] [.int (nI 6)] Z') : G Γ M_L_tables (rm M_L_tables) W (16334, 137127) 888 [some (.ref 800000), some (.int ((-73))), some (.int (nI 5))] [.int (nI 3)] Z := by
  refine G_iconst (pc := 888) (v := nI 3) dL_tables_888 (by first | rfl | decide) ?_
  refine G_icmp_ne (pc := 889) (tgt := 901) dL_tables_889 (by decide) (fun h => absurd h (by decide)) (fun _ => ?_)
  refine G_aload_n (pc := 892) dL_tables_892 rfl ?_
  refine G_iload_n (pc := 893) dL_tables_893 rfl ?_
  refine R_V (pc := 894) (k' := (16335, 137133)) mok_X9_state lk_L_77 (sh_k h.1) rfl rfl rfl rfl (aok0 rfl) dL_tables_894 (t_state h (f := 5) (fr_lt h (m := 6) (by decide +kernel) ⟨by decide, by decide⟩)) (by decide) u2_e rfl (fun Y' q => ?_)
  subst q
  refine G_val (w := nI 1) (by decide +kernel) ?_
  refine G_iconst (pc := 897) (v := nI 1) dL_tables_897 (by first | rfl | decide) ?_
  refine G_icmp_eq (pc := 898) (tgt := 903) dL_tables_898 (by decide) (fun _ => ?_) (fun h => absurd h (by decide))
  refine G_iincN (pc := 903) dL_tables_903 rfl (by decide) ?_
  show G _ _ _ _ _ _ [some (.ref 800000), some (.int ((-73))), some (.int (nI 6))] [] _
  refine G_goto (pc := 906) (tgt := 836) dL_tables_906 (by decide) ?_
  refine G_iload_n (pc := 836) dL_tables_836 rfl ?_
  refine G_bipush (pc := 837) (v := nI 21) dL_tables_837 (by first | rfl | decide) ?_
  refine G_icmp_ge (pc := 839) (tgt := 909) dL_tables_839 (by decide) (fun h => absurd h (by decide)) (fun _ => ?_)
  refine G_aload_n (pc := 842) dL_tables_842 rfl ?_
  refine G_bipush (pc := 843) (v := nI 6) dL_tables_843 (by first | rfl | decide) ?_
  refine G_iconst (pc := 845) (v := nI 0) dL_tables_845 (by first | rfl | decide) ?_
  refine G_iload_n (pc := 846) dL_tables_846 rfl ?_
  refine G_bipush (pc := 847) (v := nI 7) dL_tables_847 (by first | rfl | decide) ?_
  refine G_iremN (pc := 849) (by omega) (by omega) (by omega) dL_tables_849 ?_
  refine G_val (w := nI 6) (by decide) ?_
  refine G_bipush (pc := 850) (v := nI 7) dL_tables_850 (by first | rfl | decide) ?_
  refine K_SW5 (pc := 852) (k' := (16347, 137233)) mok_L_act lk_L_122 rfl (by exact (fun _ => ⟨rfl, fun r hr => by rw [List.mem_singleton.mp (show r ∈ [800000] from hr), sh_k h.1]; decide, fun _ hr => nomatch hr⟩)) dL_tables_852 (act_6 (QV' := QA 56 _ _ (nI 6)) (x := nI 0) (y := nI 6) (z := nI 7) h.1 (k_begin hG h (by decide) (t := 0) (a := 6) (c := 7) (z := nI 1) (m := 6) (by decide) (by decide) (by decide) (Or.inr rfl) (by decide +kernel) (by decide)) es_5 (fun Z' _ q => ⟨congrArg (fun t => some (Value.int t)) (by decide +kernel), q⟩) (fun i E Z' q1 q2 _ => no_x (by decide) (by decide +kernel) q1 q2)) rfl (fun v Y' q => ?_) (fun E Y' q => q.elim)
  obtain ⟨rfl, -, g', A', h'⟩ := q
  show G _ _ _ _ _ _ _ (_ :: _) _
  exact kk _ _ _ (CI_frz h' (by decide +kernel) (by decide +kernel))
theorem tq_57 {Γ : GTy} (hG : GS Γ) {W : WTy} {Z : HS} {g : GN} {A : FT} (h : CI 57 Z (toF tqN_42) g A) (kk : ∀ (Z' : HS) (g' : GN) (A' : FT), CI 58 Z' (toF tqN_43) g' A' → G Γ M_L_tables (rm M_L_tables) W (16349, 137245) 880 [some (.ref 800000), some (.int ((-73))), some (.int (nI 6))] [.int (nI 0)] Z') : G Γ M_L_tables (rm M_L_tables) W (16347, 137233) 855 [some (.ref 800000), some (.int ((-73))), some (.int (nI 6))] [.int (nI 6)] Z := by
  refine G_iload_n (pc := 855) dL_tables_855 rfl ?_
  refine G_bipush (pc := 856) (v := nI 20) dL_tables_856 (by first | rfl | decide) ?_
  refine G_icmp_ge (pc := 858) (tgt := 865) dL_tables_858 (by decide) (fun h => absurd h (by decide)) (fun _ => ?_)
  refine G_iload_n (pc := 861) dL_tables_861 rfl ?_
  refine G_goto (pc := 862) (tgt := 866) dL_tables_862 (by decide) ?_
  refine G_icmp_ne (pc := 866) (tgt := 901) dL_tables_866 (by decide) (fun h => absurd h (by decide)) (fun _ => ?_)
  refine G_iload_n (pc := 869) dL_tables_869 rfl ?_
  refine G_bipush (pc := 870) (v := nI 20) dL_tables_870 (by first | rfl | decide) ?_
  refine G_icmp_ge (pc := 872) (tgt := 903) dL_tables_872 (by decide) (fun h => absurd h (by decide)) (fun _ => ?_)
  refine G_aload_n (pc := 875) dL_tables_875 rfl ?_
  refine G_iconst (pc := 876) (v := nI 0) dL_tables_876 (by first | rfl | decide) ?_
  refine R_V (pc := 877) (k' := (16349, 137245)) mok_X9_tear lk_L_20 (sh_k h.1) rfl rfl rfl rfl (aok0 rfl) dL_tables_877 (k_tear h (by decide) (t := 0) (r := 0) (k := 7) (by decide) (by decide +kernel) (by decide +kernel) ⟨by decide, by decide⟩) (by decide) (by decide +kernel) rfl (fun Y' q => ?_)
  obtain ⟨-, g', A', h'⟩ := q
  refine G_val (w := nI 0) (by decide +kernel) ?_
  exact kk _ _ _ (CI_frz h' (by decide +kernel) (by decide +kernel))
theorem tq_58 {Γ : GTy} (hG : GS Γ) {W : WTy} {Z : HS} {g : GN} {A : FT} (h : CI 58 Z (toF tqN_43) g A) (kk : ∀ (Z' : HS) (g' : GN) (A' : FT), CI 59 Z' (toF tqN_44) g' A' → G Γ M_L_tables (rm M_L_tables) W (16351, 137257) 888 [some (.ref 800000), some (.int ((-73))), some (.int (nI 6))] [.int (nI 3)] Z') : G Γ M_L_tables (rm M_L_tables) W (16349, 137245) 880 [some (.ref 800000), some (.int ((-73))), some (.int (nI 6))] [.int (nI 0)] Z := by
  refine G_if_ne (pc := 880) (tgt := 901) dL_tables_880 (by decide) (fun h => absurd h (by decide)) (fun _ => ?_)
  refine G_aload_n (pc := 883) dL_tables_883 rfl ?_
  refine G_iconst (pc := 884) (v := nI 0) dL_tables_884 (by first | rfl | decide) ?_
  refine R_V (pc := 885) (k' := (16351, 137257)) mok_X9_mend lk_L_23 (sh_k h.1) rfl rfl rfl rfl (aok0 rfl) dL_tables_885 (m_mend h (by decide) (t := 0) (by decide)) (by decide) (by decide +kernel) rfl (fun Y' q => ?_)
  obtain ⟨-, g', A', h'⟩ := q
  refine G_val (w := nI 3) (by decide +kernel) ?_
  exact kk _ _ _ (CI_frz h' (by decide +kernel) (by decide +kernel))
theorem tq_59 {Γ : GTy} (hG : GS Γ) {W : WTy} {Z : HS} {g : GN} {A : FT} (h : CI 59 Z (toF tqN_44) g A) (kk : ∀ (Z' : HS) (g' : GN) (A' : FT), CI 60 Z' (toF tqN_45) g' A' → G Γ M_L_tables (rm M_L_tables) W (16364, 137363) 855 [some (.ref 800000), some (.int ((-73))), some (.int (nI 7))] [.int (nI 7)] Z') : G Γ M_L_tables (rm M_L_tables) W (16351, 137257) 888 [some (.ref 800000), some (.int ((-73))), some (.int (nI 6))] [.int (nI 3)] Z := by
  refine G_iconst (pc := 888) (v := nI 3) dL_tables_888 (by first | rfl | decide) ?_
  refine G_icmp_ne (pc := 889) (tgt := 901) dL_tables_889 (by decide) (fun h => absurd h (by decide)) (fun _ => ?_)
  refine G_aload_n (pc := 892) dL_tables_892 rfl ?_
  refine G_iload_n (pc := 893) dL_tables_893 rfl ?_
  refine R_V (pc := 894) (k' := (16352, 137263)) mok_X9_state lk_L_77 (sh_k h.1) rfl rfl rfl rfl (aok0 rfl) dL_tables_894 (t_state h (f := 6) (fr_lt h (m := 7) (by decide +kernel) ⟨by decide, by decide⟩)) (by decide) u2_e rfl (fun Y' q => ?_)
  subst q
  refine G_val (w := nI 1) (by decide +kernel) ?_
  refine G_iconst (pc := 897) (v := nI 1) dL_tables_897 (by first | rfl | decide) ?_
  refine G_icmp_eq (pc := 898) (tgt := 903) dL_tables_898 (by decide) (fun _ => ?_) (fun h => absurd h (by decide))
  refine G_iincN (pc := 903) dL_tables_903 rfl (by decide) ?_
  show G _ _ _ _ _ _ [some (.ref 800000), some (.int ((-73))), some (.int (nI 7))] [] _
  refine G_goto (pc := 906) (tgt := 836) dL_tables_906 (by decide) ?_
  refine G_iload_n (pc := 836) dL_tables_836 rfl ?_
  refine G_bipush (pc := 837) (v := nI 21) dL_tables_837 (by first | rfl | decide) ?_
  refine G_icmp_ge (pc := 839) (tgt := 909) dL_tables_839 (by decide) (fun h => absurd h (by decide)) (fun _ => ?_)
  refine G_aload_n (pc := 842) dL_tables_842 rfl ?_
  refine G_bipush (pc := 843) (v := nI 6) dL_tables_843 (by first | rfl | decide) ?_
  refine G_iconst (pc := 845) (v := nI 0) dL_tables_845 (by first | rfl | decide) ?_
  refine G_iload_n (pc := 846) dL_tables_846 rfl ?_
  refine G_bipush (pc := 847) (v := nI 7) dL_tables_847 (by first | rfl | decide) ?_
  refine G_iremN (pc := 849) (by omega) (by omega) (by omega) dL_tables_849 ?_
  refine G_val (w := nI 0) (by decide) ?_
  refine G_bipush (pc := 850) (v := nI 7) dL_tables_850 (by first | rfl | decide) ?_
  refine K_SW5 (pc := 852) (k' := (16364, 137363)) mok_L_act lk_L_122 rfl (by exact (fun _ => ⟨rfl, fun r hr => by rw [List.mem_singleton.mp (show r ∈ [800000] from hr), sh_k h.1]; decide, fun _ hr => nomatch hr⟩)) dL_tables_852 (act_6 (QV' := QA 59 _ _ (nI 7)) (x := nI 0) (y := nI 0) (z := nI 7) h.1 (k_begin hG h (by decide) (t := 0) (a := 0) (c := 7) (z := nI 1) (m := 7) (by decide) (by decide) (by decide) (Or.inr rfl) (by decide +kernel) (by decide)) es_5 (fun Z' _ q => ⟨congrArg (fun t => some (Value.int t)) (by decide +kernel), q⟩) (fun i E Z' q1 q2 _ => no_x (by decide) (by decide +kernel) q1 q2)) rfl (fun v Y' q => ?_) (fun E Y' q => q.elim)
  obtain ⟨rfl, -, g', A', h'⟩ := q
  show G _ _ _ _ _ _ _ (_ :: _) _
  exact kk _ _ _ (CI_frz h' (by decide +kernel) (by decide +kernel))
theorem tq_60 {Γ : GTy} (hG : GS Γ) {W : WTy} {Z : HS} {g : GN} {A : FT} (h : CI 60 Z (toF tqN_45) g A) (kk : ∀ (Z' : HS) (g' : GN) (A' : FT), CI 61 Z' (toF tqN_46) g' A' → G Γ M_L_tables (rm M_L_tables) W (16366, 137375) 880 [some (.ref 800000), some (.int ((-73))), some (.int (nI 7))] [.int (nI 0)] Z') : G Γ M_L_tables (rm M_L_tables) W (16364, 137363) 855 [some (.ref 800000), some (.int ((-73))), some (.int (nI 7))] [.int (nI 7)] Z := by
  refine G_iload_n (pc := 855) dL_tables_855 rfl ?_
  refine G_bipush (pc := 856) (v := nI 20) dL_tables_856 (by first | rfl | decide) ?_
  refine G_icmp_ge (pc := 858) (tgt := 865) dL_tables_858 (by decide) (fun h => absurd h (by decide)) (fun _ => ?_)
  refine G_iload_n (pc := 861) dL_tables_861 rfl ?_
  refine G_goto (pc := 862) (tgt := 866) dL_tables_862 (by decide) ?_
  refine G_icmp_ne (pc := 866) (tgt := 901) dL_tables_866 (by decide) (fun h => absurd h (by decide)) (fun _ => ?_)
  refine G_iload_n (pc := 869) dL_tables_869 rfl ?_
  refine G_bipush (pc := 870) (v := nI 20) dL_tables_870 (by first | rfl | decide) ?_
  refine G_icmp_ge (pc := 872) (tgt := 903) dL_tables_872 (by decide) (fun h => absurd h (by decide)) (fun _ => ?_)
  refine G_aload_n (pc := 875) dL_tables_875 rfl ?_
  refine G_iconst (pc := 876) (v := nI 0) dL_tables_876 (by first | rfl | decide) ?_
  refine R_V (pc := 877) (k' := (16366, 137375)) mok_X9_tear lk_L_20 (sh_k h.1) rfl rfl rfl rfl (aok0 rfl) dL_tables_877 (k_tear h (by decide) (t := 0) (r := 0) (k := 8) (by decide) (by decide +kernel) (by decide +kernel) ⟨by decide, by decide⟩) (by decide) (by decide +kernel) rfl (fun Y' q => ?_)
  obtain ⟨-, g', A', h'⟩ := q
  refine G_val (w := nI 0) (by decide +kernel) ?_
  exact kk _ _ _ (CI_frz h' (by decide +kernel) (by decide +kernel))
theorem tq_61 {Γ : GTy} (hG : GS Γ) {W : WTy} {Z : HS} {g : GN} {A : FT} (h : CI 61 Z (toF tqN_46) g A) (kk : ∀ (Z' : HS) (g' : GN) (A' : FT), CI 62 Z' (toF tqN_47) g' A' → G Γ M_L_tables (rm M_L_tables) W (16368, 137387) 888 [some (.ref 800000), some (.int ((-73))), some (.int (nI 7))] [.int (nI 3)] Z') : G Γ M_L_tables (rm M_L_tables) W (16366, 137375) 880 [some (.ref 800000), some (.int ((-73))), some (.int (nI 7))] [.int (nI 0)] Z := by
  refine G_if_ne (pc := 880) (tgt := 901) dL_tables_880 (by decide) (fun h => absurd h (by decide)) (fun _ => ?_)
  refine G_aload_n (pc := 883) dL_tables_883 rfl ?_
  refine G_iconst (pc := 884) (v := nI 0) dL_tables_884 (by first | rfl | decide) ?_
  refine R_V (pc := 885) (k' := (16368, 137387)) mok_X9_mend lk_L_23 (sh_k h.1) rfl rfl rfl rfl (aok0 rfl) dL_tables_885 (m_mend h (by decide) (t := 0) (by decide)) (by decide) (by decide +kernel) rfl (fun Y' q => ?_)
  obtain ⟨-, g', A', h'⟩ := q
  refine G_val (w := nI 3) (by decide +kernel) ?_
  exact kk _ _ _ (CI_frz h' (by decide +kernel) (by decide +kernel))
theorem tq_62 {Γ : GTy} (hG : GS Γ) {W : WTy} {Z : HS} {g : GN} {A : FT} (h : CI 62 Z (toF tqN_47) g A) (kk : ∀ (Z' : HS) (g' : GN) (A' : FT), CI 63 Z' (toF tqN_48) g' A' → G Γ M_L_tables (rm M_L_tables) W (16381, 137493) 855 [some (.ref 800000), some (.int ((-73))), some (.int (nI 8))] [.int (nI 8)] Z') : G Γ M_L_tables (rm M_L_tables) W (16368, 137387) 888 [some (.ref 800000), some (.int ((-73))), some (.int (nI 7))] [.int (nI 3)] Z := by
  refine G_iconst (pc := 888) (v := nI 3) dL_tables_888 (by first | rfl | decide) ?_
  refine G_icmp_ne (pc := 889) (tgt := 901) dL_tables_889 (by decide) (fun h => absurd h (by decide)) (fun _ => ?_)
  refine G_aload_n (pc := 892) dL_tables_892 rfl ?_
  refine G_iload_n (pc := 893) dL_tables_893 rfl ?_
  refine R_V (pc := 894) (k' := (16369, 137393)) mok_X9_state lk_L_77 (sh_k h.1) rfl rfl rfl rfl (aok0 rfl) dL_tables_894 (t_state h (f := 7) (fr_lt h (m := 8) (by decide +kernel) ⟨by decide, by decide⟩)) (by decide) u2_e rfl (fun Y' q => ?_)
  subst q
  refine G_val (w := nI 1) (by decide +kernel) ?_
  refine G_iconst (pc := 897) (v := nI 1) dL_tables_897 (by first | rfl | decide) ?_
  refine G_icmp_eq (pc := 898) (tgt := 903) dL_tables_898 (by decide) (fun _ => ?_) (fun h => absurd h (by decide))
  refine G_iincN (pc := 903) dL_tables_903 rfl (by decide) ?_
  show G _ _ _ _ _ _ [some (.ref 800000), some (.int ((-73))), some (.int (nI 8))] [] _
  refine G_goto (pc := 906) (tgt := 836) dL_tables_906 (by decide) ?_
  refine G_iload_n (pc := 836) dL_tables_836 rfl ?_
  refine G_bipush (pc := 837) (v := nI 21) dL_tables_837 (by first | rfl | decide) ?_
  refine G_icmp_ge (pc := 839) (tgt := 909) dL_tables_839 (by decide) (fun h => absurd h (by decide)) (fun _ => ?_)
  refine G_aload_n (pc := 842) dL_tables_842 rfl ?_
  refine G_bipush (pc := 843) (v := nI 6) dL_tables_843 (by first | rfl | decide) ?_
  refine G_iconst (pc := 845) (v := nI 0) dL_tables_845 (by first | rfl | decide) ?_
  refine G_iload_n (pc := 846) dL_tables_846 rfl ?_
  refine G_bipush (pc := 847) (v := nI 7) dL_tables_847 (by first | rfl | decide) ?_
  refine G_iremN (pc := 849) (by omega) (by omega) (by omega) dL_tables_849 ?_
  refine G_val (w := nI 1) (by decide) ?_
  refine G_bipush (pc := 850) (v := nI 7) dL_tables_850 (by first | rfl | decide) ?_
  refine K_SW5 (pc := 852) (k' := (16381, 137493)) mok_L_act lk_L_122 rfl (by exact (fun _ => ⟨rfl, fun r hr => by rw [List.mem_singleton.mp (show r ∈ [800000] from hr), sh_k h.1]; decide, fun _ hr => nomatch hr⟩)) dL_tables_852 (act_6 (QV' := QA 62 _ _ (nI 8)) (x := nI 0) (y := nI 1) (z := nI 7) h.1 (k_begin hG h (by decide) (t := 0) (a := 1) (c := 7) (z := nI 1) (m := 8) (by decide) (by decide) (by decide) (Or.inr rfl) (by decide +kernel) (by decide)) es_5 (fun Z' _ q => ⟨congrArg (fun t => some (Value.int t)) (by decide +kernel), q⟩) (fun i E Z' q1 q2 _ => no_x (by decide) (by decide +kernel) q1 q2)) rfl (fun v Y' q => ?_) (fun E Y' q => q.elim)
  obtain ⟨rfl, -, g', A', h'⟩ := q
  show G _ _ _ _ _ _ _ (_ :: _) _
  exact kk _ _ _ (CI_frz h' (by decide +kernel) (by decide +kernel))
theorem tq_63 {Γ : GTy} (hG : GS Γ) {W : WTy} {Z : HS} {g : GN} {A : FT} (h : CI 63 Z (toF tqN_48) g A) (kk : ∀ (Z' : HS) (g' : GN) (A' : FT), CI 64 Z' (toF tqN_49) g' A' → G Γ M_L_tables (rm M_L_tables) W (16383, 137505) 880 [some (.ref 800000), some (.int ((-73))), some (.int (nI 8))] [.int (nI 0)] Z') : G Γ M_L_tables (rm M_L_tables) W (16381, 137493) 855 [some (.ref 800000), some (.int ((-73))), some (.int (nI 8))] [.int (nI 8)] Z := by
  refine G_iload_n (pc := 855) dL_tables_855 rfl ?_
  refine G_bipush (pc := 856) (v := nI 20) dL_tables_856 (by first | rfl | decide) ?_
  refine G_icmp_ge (pc := 858) (tgt := 865) dL_tables_858 (by decide) (fun h => absurd h (by decide)) (fun _ => ?_)
  refine G_iload_n (pc := 861) dL_tables_861 rfl ?_
  refine G_goto (pc := 862) (tgt := 866) dL_tables_862 (by decide) ?_
  refine G_icmp_ne (pc := 866) (tgt := 901) dL_tables_866 (by decide) (fun h => absurd h (by decide)) (fun _ => ?_)
  refine G_iload_n (pc := 869) dL_tables_869 rfl ?_
  refine G_bipush (pc := 870) (v := nI 20) dL_tables_870 (by first | rfl | decide) ?_
  refine G_icmp_ge (pc := 872) (tgt := 903) dL_tables_872 (by decide) (fun h => absurd h (by decide)) (fun _ => ?_)
  refine G_aload_n (pc := 875) dL_tables_875 rfl ?_
  refine G_iconst (pc := 876) (v := nI 0) dL_tables_876 (by first | rfl | decide) ?_
  refine R_V (pc := 877) (k' := (16383, 137505)) mok_X9_tear lk_L_20 (sh_k h.1) rfl rfl rfl rfl (aok0 rfl) dL_tables_877 (k_tear h (by decide) (t := 0) (r := 0) (k := 9) (by decide) (by decide +kernel) (by decide +kernel) ⟨by decide, by decide⟩) (by decide) (by decide +kernel) rfl (fun Y' q => ?_)
  obtain ⟨-, g', A', h'⟩ := q
  refine G_val (w := nI 0) (by decide +kernel) ?_
  exact kk _ _ _ (CI_frz h' (by decide +kernel) (by decide +kernel))
theorem tq_64 {Γ : GTy} (hG : GS Γ) {W : WTy} {Z : HS} {g : GN} {A : FT} (h : CI 64 Z (toF tqN_49) g A) (kk : ∀ (Z' : HS) (g' : GN) (A' : FT), CI 65 Z' (toF tqN_50) g' A' → G Γ M_L_tables (rm M_L_tables) W (16385, 137517) 888 [some (.ref 800000), some (.int ((-73))), some (.int (nI 8))] [.int (nI 3)] Z') : G Γ M_L_tables (rm M_L_tables) W (16383, 137505) 880 [some (.ref 800000), some (.int ((-73))), some (.int (nI 8))] [.int (nI 0)] Z := by
  refine G_if_ne (pc := 880) (tgt := 901) dL_tables_880 (by decide) (fun h => absurd h (by decide)) (fun _ => ?_)
  refine G_aload_n (pc := 883) dL_tables_883 rfl ?_
  refine G_iconst (pc := 884) (v := nI 0) dL_tables_884 (by first | rfl | decide) ?_
  refine R_V (pc := 885) (k' := (16385, 137517)) mok_X9_mend lk_L_23 (sh_k h.1) rfl rfl rfl rfl (aok0 rfl) dL_tables_885 (m_mend h (by decide) (t := 0) (by decide)) (by decide) (by decide +kernel) rfl (fun Y' q => ?_)
  obtain ⟨-, g', A', h'⟩ := q
  refine G_val (w := nI 3) (by decide +kernel) ?_
  exact kk _ _ _ (CI_frz h' (by decide +kernel) (by decide +kernel))
theorem tq_65 {Γ : GTy} (hG : GS Γ) {W : WTy} {Z : HS} {g : GN} {A : FT} (h : CI 65 Z (toF tqN_50) g A) (kk : ∀ (Z' : HS) (g' : GN) (A' : FT), CI 66 Z' (toF tqN_51) g' A' → G Γ M_L_tables (rm M_L_tables) W (16398, 137623) 855 [some (.ref 800000), some (.int ((-73))), some (.int (nI 9))] [.int (nI 9)] Z') : G Γ M_L_tables (rm M_L_tables) W (16385, 137517) 888 [some (.ref 800000), some (.int ((-73))), some (.int (nI 8))] [.int (nI 3)] Z := by
  refine G_iconst (pc := 888) (v := nI 3) dL_tables_888 (by first | rfl | decide) ?_
  refine G_icmp_ne (pc := 889) (tgt := 901) dL_tables_889 (by decide) (fun h => absurd h (by decide)) (fun _ => ?_)
  refine G_aload_n (pc := 892) dL_tables_892 rfl ?_
  refine G_iload_n (pc := 893) dL_tables_893 rfl ?_
  refine R_V (pc := 894) (k' := (16386, 137523)) mok_X9_state lk_L_77 (sh_k h.1) rfl rfl rfl rfl (aok0 rfl) dL_tables_894 (t_state h (f := 8) (fr_lt h (m := 9) (by decide +kernel) ⟨by decide, by decide⟩)) (by decide) u2_e rfl (fun Y' q => ?_)
  subst q
  refine G_val (w := nI 1) (by decide +kernel) ?_
  refine G_iconst (pc := 897) (v := nI 1) dL_tables_897 (by first | rfl | decide) ?_
  refine G_icmp_eq (pc := 898) (tgt := 903) dL_tables_898 (by decide) (fun _ => ?_) (fun h => absurd h (by decide))
  refine G_iincN (pc := 903) dL_tables_903 rfl (by decide) ?_
  show G _ _ _ _ _ _ [some (.ref 800000), some (.int ((-73))), some (.int (nI 9))] [] _
  refine G_goto (pc := 906) (tgt := 836) dL_tables_906 (by decide) ?_
  refine G_iload_n (pc := 836) dL_tables_836 rfl ?_
  refine G_bipush (pc := 837) (v := nI 21) dL_tables_837 (by first | rfl | decide) ?_
  refine G_icmp_ge (pc := 839) (tgt := 909) dL_tables_839 (by decide) (fun h => absurd h (by decide)) (fun _ => ?_)
  refine G_aload_n (pc := 842) dL_tables_842 rfl ?_
  refine G_bipush (pc := 843) (v := nI 6) dL_tables_843 (by first | rfl | decide) ?_
  refine G_iconst (pc := 845) (v := nI 0) dL_tables_845 (by first | rfl | decide) ?_
  refine G_iload_n (pc := 846) dL_tables_846 rfl ?_
  refine G_bipush (pc := 847) (v := nI 7) dL_tables_847 (by first | rfl | decide) ?_
  refine G_iremN (pc := 849) (by omega) (by omega) (by omega) dL_tables_849 ?_
  refine G_val (w := nI 2) (by decide) ?_
  refine G_bipush (pc := 850) (v := nI 7) dL_tables_850 (by first | rfl | decide) ?_
  refine K_SW5 (pc := 852) (k' := (16398, 137623)) mok_L_act lk_L_122 rfl (by exact (fun _ => ⟨rfl, fun r hr => by rw [List.mem_singleton.mp (show r ∈ [800000] from hr), sh_k h.1]; decide, fun _ hr => nomatch hr⟩)) dL_tables_852 (act_6 (QV' := QA 65 _ _ (nI 9)) (x := nI 0) (y := nI 2) (z := nI 7) h.1 (k_begin hG h (by decide) (t := 0) (a := 2) (c := 7) (z := nI 1) (m := 9) (by decide) (by decide) (by decide) (Or.inr rfl) (by decide +kernel) (by decide)) es_5 (fun Z' _ q => ⟨congrArg (fun t => some (Value.int t)) (by decide +kernel), q⟩) (fun i E Z' q1 q2 _ => no_x (by decide) (by decide +kernel) q1 q2)) rfl (fun v Y' q => ?_) (fun E Y' q => q.elim)
  obtain ⟨rfl, -, g', A', h'⟩ := q
  show G _ _ _ _ _ _ _ (_ :: _) _
  exact kk _ _ _ (CI_frz h' (by decide +kernel) (by decide +kernel))
theorem tq_66 {Γ : GTy} (hG : GS Γ) {W : WTy} {Z : HS} {g : GN} {A : FT} (h : CI 66 Z (toF tqN_51) g A) (kk : ∀ (Z' : HS) (g' : GN) (A' : FT), CI 67 Z' (toF tqN_52) g' A' → G Γ M_L_tables (rm M_L_tables) W (16400, 137635) 880 [some (.ref 800000), some (.int ((-73))), some (.int (nI 9))] [.int (nI 0)] Z') : G Γ M_L_tables (rm M_L_tables) W (16398, 137623) 855 [some (.ref 800000), some (.int ((-73))), some (.int (nI 9))] [.int (nI 9)] Z := by
  refine G_iload_n (pc := 855) dL_tables_855 rfl ?_
  refine G_bipush (pc := 856) (v := nI 20) dL_tables_856 (by first | rfl | decide) ?_
  refine G_icmp_ge (pc := 858) (tgt := 865) dL_tables_858 (by decide) (fun h => absurd h (by decide)) (fun _ => ?_)
  refine G_iload_n (pc := 861) dL_tables_861 rfl ?_
  refine G_goto (pc := 862) (tgt := 866) dL_tables_862 (by decide) ?_
  refine G_icmp_ne (pc := 866) (tgt := 901) dL_tables_866 (by decide) (fun h => absurd h (by decide)) (fun _ => ?_)
  refine G_iload_n (pc := 869) dL_tables_869 rfl ?_
  refine G_bipush (pc := 870) (v := nI 20) dL_tables_870 (by first | rfl | decide) ?_
  refine G_icmp_ge (pc := 872) (tgt := 903) dL_tables_872 (by decide) (fun h => absurd h (by decide)) (fun _ => ?_)
  refine G_aload_n (pc := 875) dL_tables_875 rfl ?_
  refine G_iconst (pc := 876) (v := nI 0) dL_tables_876 (by first | rfl | decide) ?_
  refine R_V (pc := 877) (k' := (16400, 137635)) mok_X9_tear lk_L_20 (sh_k h.1) rfl rfl rfl rfl (aok0 rfl) dL_tables_877 (k_tear h (by decide) (t := 0) (r := 0) (k := 10) (by decide) (by decide +kernel) (by decide +kernel) ⟨by decide, by decide⟩) (by decide) (by decide +kernel) rfl (fun Y' q => ?_)
  obtain ⟨-, g', A', h'⟩ := q
  refine G_val (w := nI 0) (by decide +kernel) ?_
  exact kk _ _ _ (CI_frz h' (by decide +kernel) (by decide +kernel))
theorem tq_67 {Γ : GTy} (hG : GS Γ) {W : WTy} {Z : HS} {g : GN} {A : FT} (h : CI 67 Z (toF tqN_52) g A) (kk : ∀ (Z' : HS) (g' : GN) (A' : FT), CI 68 Z' (toF tqN_53) g' A' → G Γ M_L_tables (rm M_L_tables) W (16402, 137647) 888 [some (.ref 800000), some (.int ((-73))), some (.int (nI 9))] [.int (nI 3)] Z') : G Γ M_L_tables (rm M_L_tables) W (16400, 137635) 880 [some (.ref 800000), some (.int ((-73))), some (.int (nI 9))] [.int (nI 0)] Z := by
  refine G_if_ne (pc := 880) (tgt := 901) dL_tables_880 (by decide) (fun h => absurd h (by decide)) (fun _ => ?_)
  refine G_aload_n (pc := 883) dL_tables_883 rfl ?_
  refine G_iconst (pc := 884) (v := nI 0) dL_tables_884 (by first | rfl | decide) ?_
  refine R_V (pc := 885) (k' := (16402, 137647)) mok_X9_mend lk_L_23 (sh_k h.1) rfl rfl rfl rfl (aok0 rfl) dL_tables_885 (m_mend h (by decide) (t := 0) (by decide)) (by decide) (by decide +kernel) rfl (fun Y' q => ?_)
  obtain ⟨-, g', A', h'⟩ := q
  refine G_val (w := nI 3) (by decide +kernel) ?_
  exact kk _ _ _ (CI_frz h' (by decide +kernel) (by decide +kernel))
theorem tq_68 {Γ : GTy} (hG : GS Γ) {W : WTy} {Z : HS} {g : GN} {A : FT} (h : CI 68 Z (toF tqN_53) g A) (kk : ∀ (Z' : HS) (g' : GN) (A' : FT), CI 69 Z' (toF tqN_54) g' A' → G Γ M_L_tables (rm M_L_tables) W (16415, 137753) 855 [some (.ref 800000), some (.int ((-73))), some (.int (nI 10))] [.int (nI 10)] Z') : G Γ M_L_tables (rm M_L_tables) W (16402, 137647) 888 [some (.ref 800000), some (.int ((-73))), some (.int (nI 9))] [.int (nI 3)] Z := by
  refine G_iconst (pc := 888) (v := nI 3) dL_tables_888 (by first | rfl | decide) ?_
  refine G_icmp_ne (pc := 889) (tgt := 901) dL_tables_889 (by decide) (fun h => absurd h (by decide)) (fun _ => ?_)
  refine G_aload_n (pc := 892) dL_tables_892 rfl ?_
  refine G_iload_n (pc := 893) dL_tables_893 rfl ?_
  refine R_V (pc := 894) (k' := (16403, 137653)) mok_X9_state lk_L_77 (sh_k h.1) rfl rfl rfl rfl (aok0 rfl) dL_tables_894 (t_state h (f := 9) (fr_lt h (m := 10) (by decide +kernel) ⟨by decide, by decide⟩)) (by decide) u2_e rfl (fun Y' q => ?_)
  subst q
  refine G_val (w := nI 1) (by decide +kernel) ?_
  refine G_iconst (pc := 897) (v := nI 1) dL_tables_897 (by first | rfl | decide) ?_
  refine G_icmp_eq (pc := 898) (tgt := 903) dL_tables_898 (by decide) (fun _ => ?_) (fun h => absurd h (by decide))
  refine G_iincN (pc := 903) dL_tables_903 rfl (by decide) ?_
  show G _ _ _ _ _ _ [some (.ref 800000), some (.int ((-73))), some (.int (nI 10))] [] _
  refine G_goto (pc := 906) (tgt := 836) dL_tables_906 (by decide) ?_
  refine G_iload_n (pc := 836) dL_tables_836 rfl ?_
  refine G_bipush (pc := 837) (v := nI 21) dL_tables_837 (by first | rfl | decide) ?_
  refine G_icmp_ge (pc := 839) (tgt := 909) dL_tables_839 (by decide) (fun h => absurd h (by decide)) (fun _ => ?_)
  refine G_aload_n (pc := 842) dL_tables_842 rfl ?_
  refine G_bipush (pc := 843) (v := nI 6) dL_tables_843 (by first | rfl | decide) ?_
  refine G_iconst (pc := 845) (v := nI 0) dL_tables_845 (by first | rfl | decide) ?_
  refine G_iload_n (pc := 846) dL_tables_846 rfl ?_
  refine G_bipush (pc := 847) (v := nI 7) dL_tables_847 (by first | rfl | decide) ?_
  refine G_iremN (pc := 849) (by omega) (by omega) (by omega) dL_tables_849 ?_
  refine G_val (w := nI 3) (by decide) ?_
  refine G_bipush (pc := 850) (v := nI 7) dL_tables_850 (by first | rfl | decide) ?_
  refine K_SW5 (pc := 852) (k' := (16415, 137753)) mok_L_act lk_L_122 rfl (by exact (fun _ => ⟨rfl, fun r hr => by rw [List.mem_singleton.mp (show r ∈ [800000] from hr), sh_k h.1]; decide, fun _ hr => nomatch hr⟩)) dL_tables_852 (act_6 (QV' := QA 68 _ _ (nI 10)) (x := nI 0) (y := nI 3) (z := nI 7) h.1 (k_begin hG h (by decide) (t := 0) (a := 3) (c := 7) (z := nI 1) (m := 10) (by decide) (by decide) (by decide) (Or.inr rfl) (by decide +kernel) (by decide)) es_5 (fun Z' _ q => ⟨congrArg (fun t => some (Value.int t)) (by decide +kernel), q⟩) (fun i E Z' q1 q2 _ => no_x (by decide) (by decide +kernel) q1 q2)) rfl (fun v Y' q => ?_) (fun E Y' q => q.elim)
  obtain ⟨rfl, -, g', A', h'⟩ := q
  show G _ _ _ _ _ _ _ (_ :: _) _
  exact kk _ _ _ (CI_frz h' (by decide +kernel) (by decide +kernel))
theorem tq_69 {Γ : GTy} (hG : GS Γ) {W : WTy} {Z : HS} {g : GN} {A : FT} (h : CI 69 Z (toF tqN_54) g A) (kk : ∀ (Z' : HS) (g' : GN) (A' : FT), CI 70 Z' (toF tqN_55) g' A' → G Γ M_L_tables (rm M_L_tables) W (16417, 137765) 880 [some (.ref 800000), some (.int ((-73))), some (.int (nI 10))] [.int (nI 0)] Z') : G Γ M_L_tables (rm M_L_tables) W (16415, 137753) 855 [some (.ref 800000), some (.int ((-73))), some (.int (nI 10))] [.int (nI 10)] Z := by
  refine G_iload_n (pc := 855) dL_tables_855 rfl ?_
  refine G_bipush (pc := 856) (v := nI 20) dL_tables_856 (by first | rfl | decide) ?_
  refine G_icmp_ge (pc := 858) (tgt := 865) dL_tables_858 (by decide) (fun h => absurd h (by decide)) (fun _ => ?_)
  refine G_iload_n (pc := 861) dL_tables_861 rfl ?_
  refine G_goto (pc := 862) (tgt := 866) dL_tables_862 (by decide) ?_
  refine G_icmp_ne (pc := 866) (tgt := 901) dL_tables_866 (by decide) (fun h => absurd h (by decide)) (fun _ => ?_)
  refine G_iload_n (pc := 869) dL_tables_869 rfl ?_
  refine G_bipush (pc := 870) (v := nI 20) dL_tables_870 (by first | rfl | decide) ?_
  refine G_icmp_ge (pc := 872) (tgt := 903) dL_tables_872 (by decide) (fun h => absurd h (by decide)) (fun _ => ?_)
  refine G_aload_n (pc := 875) dL_tables_875 rfl ?_
  refine G_iconst (pc := 876) (v := nI 0) dL_tables_876 (by first | rfl | decide) ?_
  refine R_V (pc := 877) (k' := (16417, 137765)) mok_X9_tear lk_L_20 (sh_k h.1) rfl rfl rfl rfl (aok0 rfl) dL_tables_877 (k_tear h (by decide) (t := 0) (r := 0) (k := 11) (by decide) (by decide +kernel) (by decide +kernel) ⟨by decide, by decide⟩) (by decide) (by decide +kernel) rfl (fun Y' q => ?_)
  obtain ⟨-, g', A', h'⟩ := q
  refine G_val (w := nI 0) (by decide +kernel) ?_
  exact kk _ _ _ (CI_frz h' (by decide +kernel) (by decide +kernel))
theorem tq_70 {Γ : GTy} (hG : GS Γ) {W : WTy} {Z : HS} {g : GN} {A : FT} (h : CI 70 Z (toF tqN_55) g A) (kk : ∀ (Z' : HS) (g' : GN) (A' : FT), CI 71 Z' (toF tqN_56) g' A' → G Γ M_L_tables (rm M_L_tables) W (16419, 137777) 888 [some (.ref 800000), some (.int ((-73))), some (.int (nI 10))] [.int (nI 3)] Z') : G Γ M_L_tables (rm M_L_tables) W (16417, 137765) 880 [some (.ref 800000), some (.int ((-73))), some (.int (nI 10))] [.int (nI 0)] Z := by
  refine G_if_ne (pc := 880) (tgt := 901) dL_tables_880 (by decide) (fun h => absurd h (by decide)) (fun _ => ?_)
  refine G_aload_n (pc := 883) dL_tables_883 rfl ?_
  refine G_iconst (pc := 884) (v := nI 0) dL_tables_884 (by first | rfl | decide) ?_
  refine R_V (pc := 885) (k' := (16419, 137777)) mok_X9_mend lk_L_23 (sh_k h.1) rfl rfl rfl rfl (aok0 rfl) dL_tables_885 (m_mend h (by decide) (t := 0) (by decide)) (by decide) (by decide +kernel) rfl (fun Y' q => ?_)
  obtain ⟨-, g', A', h'⟩ := q
  refine G_val (w := nI 3) (by decide +kernel) ?_
  exact kk _ _ _ (CI_frz h' (by decide +kernel) (by decide +kernel))
theorem tq_71 {Γ : GTy} (hG : GS Γ) {W : WTy} {Z : HS} {g : GN} {A : FT} (h : CI 71 Z (toF tqN_56) g A) (kk : ∀ (Z' : HS) (g' : GN) (A' : FT), CI 72 Z' (toF tqN_57) g' A' → G Γ M_L_tables (rm M_L_tables) W (16432, 137883) 855 [some (.ref 800000), some (.int ((-73))), some (.int (nI 11))] [.int (nI 11)] Z') : G Γ M_L_tables (rm M_L_tables) W (16419, 137777) 888 [some (.ref 800000), some (.int ((-73))), some (.int (nI 10))] [.int (nI 3)] Z := by
  refine G_iconst (pc := 888) (v := nI 3) dL_tables_888 (by first | rfl | decide) ?_
  refine G_icmp_ne (pc := 889) (tgt := 901) dL_tables_889 (by decide) (fun h => absurd h (by decide)) (fun _ => ?_)
  refine G_aload_n (pc := 892) dL_tables_892 rfl ?_
  refine G_iload_n (pc := 893) dL_tables_893 rfl ?_
  refine R_V (pc := 894) (k' := (16420, 137783)) mok_X9_state lk_L_77 (sh_k h.1) rfl rfl rfl rfl (aok0 rfl) dL_tables_894 (t_state h (f := 10) (fr_lt h (m := 11) (by decide +kernel) ⟨by decide, by decide⟩)) (by decide) u2_e rfl (fun Y' q => ?_)
  subst q
  refine G_val (w := nI 1) (by decide +kernel) ?_
  refine G_iconst (pc := 897) (v := nI 1) dL_tables_897 (by first | rfl | decide) ?_
  refine G_icmp_eq (pc := 898) (tgt := 903) dL_tables_898 (by decide) (fun _ => ?_) (fun h => absurd h (by decide))
  refine G_iincN (pc := 903) dL_tables_903 rfl (by decide) ?_
  show G _ _ _ _ _ _ [some (.ref 800000), some (.int ((-73))), some (.int (nI 11))] [] _
  refine G_goto (pc := 906) (tgt := 836) dL_tables_906 (by decide) ?_
  refine G_iload_n (pc := 836) dL_tables_836 rfl ?_
  refine G_bipush (pc := 837) (v := nI 21) dL_tables_837 (by first | rfl | decide) ?_
  refine G_icmp_ge (pc := 839) (tgt := 909) dL_tables_839 (by decide) (fun h => absurd h (by decide)) (fun _ => ?_)
  refine G_aload_n (pc := 842) dL_tables_842 rfl ?_
  refine G_bipush (pc := 843) (v := nI 6) dL_tables_843 (by first | rfl | decide) ?_
  refine G_iconst (pc := 845) (v := nI 0) dL_tables_845 (by first | rfl | decide) ?_
  refine G_iload_n (pc := 846) dL_tables_846 rfl ?_
  refine G_bipush (pc := 847) (v := nI 7) dL_tables_847 (by first | rfl | decide) ?_
  refine G_iremN (pc := 849) (by omega) (by omega) (by omega) dL_tables_849 ?_
  refine G_val (w := nI 4) (by decide) ?_
  refine G_bipush (pc := 850) (v := nI 7) dL_tables_850 (by first | rfl | decide) ?_
  refine K_SW5 (pc := 852) (k' := (16432, 137883)) mok_L_act lk_L_122 rfl (by exact (fun _ => ⟨rfl, fun r hr => by rw [List.mem_singleton.mp (show r ∈ [800000] from hr), sh_k h.1]; decide, fun _ hr => nomatch hr⟩)) dL_tables_852 (act_6 (QV' := QA 71 _ _ (nI 11)) (x := nI 0) (y := nI 4) (z := nI 7) h.1 (k_begin hG h (by decide) (t := 0) (a := 4) (c := 7) (z := nI 1) (m := 11) (by decide) (by decide) (by decide) (Or.inr rfl) (by decide +kernel) (by decide)) es_5 (fun Z' _ q => ⟨congrArg (fun t => some (Value.int t)) (by decide +kernel), q⟩) (fun i E Z' q1 q2 _ => no_x (by decide) (by decide +kernel) q1 q2)) rfl (fun v Y' q => ?_) (fun E Y' q => q.elim)
  obtain ⟨rfl, -, g', A', h'⟩ := q
  show G _ _ _ _ _ _ _ (_ :: _) _
  exact kk _ _ _ (CI_frz h' (by decide +kernel) (by decide +kernel))
theorem tq_72 {Γ : GTy} (hG : GS Γ) {W : WTy} {Z : HS} {g : GN} {A : FT} (h : CI 72 Z (toF tqN_57) g A) (kk : ∀ (Z' : HS) (g' : GN) (A' : FT), CI 73 Z' (toF tqN_58) g' A' → G Γ M_L_tables (rm M_L_tables) W (16434, 137895) 880 [some (.ref 800000), some (.int ((-73))), some (.int (nI 11))] [.int (nI 0)] Z') : G Γ M_L_tables (rm M_L_tables) W (16432, 137883) 855 [some (.ref 800000), some (.int ((-73))), some (.int (nI 11))] [.int (nI 11)] Z := by
  refine G_iload_n (pc := 855) dL_tables_855 rfl ?_
  refine G_bipush (pc := 856) (v := nI 20) dL_tables_856 (by first | rfl | decide) ?_
  refine G_icmp_ge (pc := 858) (tgt := 865) dL_tables_858 (by decide) (fun h => absurd h (by decide)) (fun _ => ?_)
  refine G_iload_n (pc := 861) dL_tables_861 rfl ?_
  refine G_goto (pc := 862) (tgt := 866) dL_tables_862 (by decide) ?_
  refine G_icmp_ne (pc := 866) (tgt := 901) dL_tables_866 (by decide) (fun h => absurd h (by decide)) (fun _ => ?_)
  refine G_iload_n (pc := 869) dL_tables_869 rfl ?_
  refine G_bipush (pc := 870) (v := nI 20) dL_tables_870 (by first | rfl | decide) ?_
  refine G_icmp_ge (pc := 872) (tgt := 903) dL_tables_872 (by decide) (fun h => absurd h (by decide)) (fun _ => ?_)
  refine G_aload_n (pc := 875) dL_tables_875 rfl ?_
  refine G_iconst (pc := 876) (v := nI 0) dL_tables_876 (by first | rfl | decide) ?_
  refine R_V (pc := 877) (k' := (16434, 137895)) mok_X9_tear lk_L_20 (sh_k h.1) rfl rfl rfl rfl (aok0 rfl) dL_tables_877 (k_tear h (by decide) (t := 0) (r := 0) (k := 12) (by decide) (by decide +kernel) (by decide +kernel) ⟨by decide, by decide⟩) (by decide) (by decide +kernel) rfl (fun Y' q => ?_)
  obtain ⟨-, g', A', h'⟩ := q
  refine G_val (w := nI 0) (by decide +kernel) ?_
  exact kk _ _ _ (CI_frz h' (by decide +kernel) (by decide +kernel))
theorem tq_73 {Γ : GTy} (hG : GS Γ) {W : WTy} {Z : HS} {g : GN} {A : FT} (h : CI 73 Z (toF tqN_58) g A) (kk : ∀ (Z' : HS) (g' : GN) (A' : FT), CI 74 Z' (toF tqN_59) g' A' → G Γ M_L_tables (rm M_L_tables) W (16436, 137907) 888 [some (.ref 800000), some (.int ((-73))), some (.int (nI 11))] [.int (nI 3)] Z') : G Γ M_L_tables (rm M_L_tables) W (16434, 137895) 880 [some (.ref 800000), some (.int ((-73))), some (.int (nI 11))] [.int (nI 0)] Z := by
  refine G_if_ne (pc := 880) (tgt := 901) dL_tables_880 (by decide) (fun h => absurd h (by decide)) (fun _ => ?_)
  refine G_aload_n (pc := 883) dL_tables_883 rfl ?_
  refine G_iconst (pc := 884) (v := nI 0) dL_tables_884 (by first | rfl | decide) ?_
  refine R_V (pc := 885) (k' := (16436, 137907)) mok_X9_mend lk_L_23 (sh_k h.1) rfl rfl rfl rfl (aok0 rfl) dL_tables_885 (m_mend h (by decide) (t := 0) (by decide)) (by decide) (by decide +kernel) rfl (fun Y' q => ?_)
  obtain ⟨-, g', A', h'⟩ := q
  refine G_val (w := nI 3) (by decide +kernel) ?_
  exact kk _ _ _ (CI_frz h' (by decide +kernel) (by decide +kernel))
theorem tq_74 {Γ : GTy} (hG : GS Γ) {W : WTy} {Z : HS} {g : GN} {A : FT} (h : CI 74 Z (toF tqN_59) g A) (kk : ∀ (Z' : HS) (g' : GN) (A' : FT), CI 75 Z' (toF tqN_60) g' A' → G Γ M_L_tables (rm M_L_tables) W (16449, 138013) 855 [some (.ref 800000), some (.int ((-73))), some (.int (nI 12))] [.int (nI 12)] Z') : G Γ M_L_tables (rm M_L_tables) W (16436, 137907) 888 [some (.ref 800000), some (.int ((-73))), some (.int (nI 11))] [.int (nI 3)] Z := by
  refine G_iconst (pc := 888) (v := nI 3) dL_tables_888 (by first | rfl | decide) ?_
  refine G_icmp_ne (pc := 889) (tgt := 901) dL_tables_889 (by decide) (fun h => absurd h (by decide)) (fun _ => ?_)
  refine G_aload_n (pc := 892) dL_tables_892 rfl ?_
  refine G_iload_n (pc := 893) dL_tables_893 rfl ?_
  refine R_V (pc := 894) (k' := (16437, 137913)) mok_X9_state lk_L_77 (sh_k h.1) rfl rfl rfl rfl (aok0 rfl) dL_tables_894 (t_state h (f := 11) (fr_lt h (m := 12) (by decide +kernel) ⟨by decide, by decide⟩)) (by decide) u2_e rfl (fun Y' q => ?_)
  subst q
  refine G_val (w := nI 1) (by decide +kernel) ?_
  refine G_iconst (pc := 897) (v := nI 1) dL_tables_897 (by first | rfl | decide) ?_
  refine G_icmp_eq (pc := 898) (tgt := 903) dL_tables_898 (by decide) (fun _ => ?_) (fun h => absurd h (by decide))
  refine G_iincN (pc := 903) dL_tables_903 rfl (by decide) ?_
  show G _ _ _ _ _ _ [some (.ref 800000), some (.int ((-73))), some (.int (nI 12))] [] _
  refine G_goto (pc := 906) (tgt := 836) dL_tables_906 (by decide) ?_
  refine G_iload_n (pc := 836) dL_tables_836 rfl ?_
  refine G_bipush (pc := 837) (v := nI 21) dL_tables_837 (by first | rfl | decide) ?_
  refine G_icmp_ge (pc := 839) (tgt := 909) dL_tables_839 (by decide) (fun h => absurd h (by decide)) (fun _ => ?_)
  refine G_aload_n (pc := 842) dL_tables_842 rfl ?_
  refine G_bipush (pc := 843) (v := nI 6) dL_tables_843 (by first | rfl | decide) ?_
  refine G_iconst (pc := 845) (v := nI 0) dL_tables_845 (by first | rfl | decide) ?_
  refine G_iload_n (pc := 846) dL_tables_846 rfl ?_
  refine G_bipush (pc := 847) (v := nI 7) dL_tables_847 (by first | rfl | decide) ?_
  refine G_iremN (pc := 849) (by omega) (by omega) (by omega) dL_tables_849 ?_
  refine G_val (w := nI 5) (by decide) ?_
  refine G_bipush (pc := 850) (v := nI 7) dL_tables_850 (by first | rfl | decide) ?_
  refine K_SW5 (pc := 852) (k' := (16449, 138013)) mok_L_act lk_L_122 rfl (by exact (fun _ => ⟨rfl, fun r hr => by rw [List.mem_singleton.mp (show r ∈ [800000] from hr), sh_k h.1]; decide, fun _ hr => nomatch hr⟩)) dL_tables_852 (act_6 (QV' := QA 74 _ _ (nI 12)) (x := nI 0) (y := nI 5) (z := nI 7) h.1 (k_begin hG h (by decide) (t := 0) (a := 5) (c := 7) (z := nI 1) (m := 12) (by decide) (by decide) (by decide) (Or.inr rfl) (by decide +kernel) (by decide)) es_5 (fun Z' _ q => ⟨congrArg (fun t => some (Value.int t)) (by decide +kernel), q⟩) (fun i E Z' q1 q2 _ => no_x (by decide) (by decide +kernel) q1 q2)) rfl (fun v Y' q => ?_) (fun E Y' q => q.elim)
  obtain ⟨rfl, -, g', A', h'⟩ := q
  show G _ _ _ _ _ _ _ (_ :: _) _
  exact kk _ _ _ (CI_frz h' (by decide +kernel) (by decide +kernel))
theorem tq_75 {Γ : GTy} (hG : GS Γ) {W : WTy} {Z : HS} {g : GN} {A : FT} (h : CI 75 Z (toF tqN_60) g A) (kk : ∀ (Z' : HS) (g' : GN) (A' : FT), CI 76 Z' (toF tqN_61) g' A' → G Γ M_L_tables (rm M_L_tables) W (16451, 138025) 880 [some (.ref 800000), some (.int ((-73))), some (.int (nI 12))] [.int (nI 0)] Z') : G Γ M_L_tables (rm M_L_tables) W (16449, 138013) 855 [some (.ref 800000), some (.int ((-73))), some (.int (nI 12))] [.int (nI 12)] Z := by
  refine G_iload_n (pc := 855) dL_tables_855 rfl ?_
  refine G_bipush (pc := 856) (v := nI 20) dL_tables_856 (by first | rfl | decide) ?_
  refine G_icmp_ge (pc := 858) (tgt := 865) dL_tables_858 (by decide) (fun h => absurd h (by decide)) (fun _ => ?_)
  refine G_iload_n (pc := 861) dL_tables_861 rfl ?_
  refine G_goto (pc := 862) (tgt := 866) dL_tables_862 (by decide) ?_
  refine G_icmp_ne (pc := 866) (tgt := 901) dL_tables_866 (by decide) (fun h => absurd h (by decide)) (fun _ => ?_)
  refine G_iload_n (pc := 869) dL_tables_869 rfl ?_
  refine G_bipush (pc := 870) (v := nI 20) dL_tables_870 (by first | rfl | decide) ?_
  refine G_icmp_ge (pc := 872) (tgt := 903) dL_tables_872 (by decide) (fun h => absurd h (by decide)) (fun _ => ?_)
  refine G_aload_n (pc := 875) dL_tables_875 rfl ?_
  refine G_iconst (pc := 876) (v := nI 0) dL_tables_876 (by first | rfl | decide) ?_
  refine R_V (pc := 877) (k' := (16451, 138025)) mok_X9_tear lk_L_20 (sh_k h.1) rfl rfl rfl rfl (aok0 rfl) dL_tables_877 (k_tear h (by decide) (t := 0) (r := 0) (k := 13) (by decide) (by decide +kernel) (by decide +kernel) ⟨by decide, by decide⟩) (by decide) (by decide +kernel) rfl (fun Y' q => ?_)
  obtain ⟨-, g', A', h'⟩ := q
  refine G_val (w := nI 0) (by decide +kernel) ?_
  exact kk _ _ _ (CI_frz h' (by decide +kernel) (by decide +kernel))
theorem tq_76 {Γ : GTy} (hG : GS Γ) {W : WTy} {Z : HS} {g : GN} {A : FT} (h : CI 76 Z (toF tqN_61) g A) (kk : ∀ (Z' : HS) (g' : GN) (A' : FT), CI 77 Z' (toF tqN_62) g' A' → G Γ M_L_tables (rm M_L_tables) W (16453, 138037) 888 [some (.ref 800000), some (.int ((-73))), some (.int (nI 12))] [.int (nI 3)] Z') : G Γ M_L_tables (rm M_L_tables) W (16451, 138025) 880 [some (.ref 800000), some (.int ((-73))), some (.int (nI 12))] [.int (nI 0)] Z := by
  refine G_if_ne (pc := 880) (tgt := 901) dL_tables_880 (by decide) (fun h => absurd h (by decide)) (fun _ => ?_)
  refine G_aload_n (pc := 883) dL_tables_883 rfl ?_
  refine G_iconst (pc := 884) (v := nI 0) dL_tables_884 (by first | rfl | decide) ?_
  refine R_V (pc := 885) (k' := (16453, 138037)) mok_X9_mend lk_L_23 (sh_k h.1) rfl rfl rfl rfl (aok0 rfl) dL_tables_885 (m_mend h (by decide) (t := 0) (by decide)) (by decide) (by decide +kernel) rfl (fun Y' q => ?_)
  obtain ⟨-, g', A', h'⟩ := q
  refine G_val (w := nI 3) (by decide +kernel) ?_
  exact kk _ _ _ (CI_frz h' (by decide +kernel) (by decide +kernel))
theorem tq_77 {Γ : GTy} (hG : GS Γ) {W : WTy} {Z : HS} {g : GN} {A : FT} (h : CI 77 Z (toF tqN_62) g A) (kk : ∀ (Z' : HS) (g' : GN) (A' : FT), CI 78 Z' (toF tqN_63) g' A' → G Γ M_L_tables (rm M_L_tables) W (16466, 138143) 855 [some (.ref 800000), some (.int ((-73))), some (.int (nI 13))] [.int (nI 13)] Z') : G Γ M_L_tables (rm M_L_tables) W (16453, 138037) 888 [some (.ref 800000), some (.int ((-73))), some (.int (nI 12))] [.int (nI 3)] Z := by
  refine G_iconst (pc := 888) (v := nI 3) dL_tables_888 (by first | rfl | decide) ?_
  refine G_icmp_ne (pc := 889) (tgt := 901) dL_tables_889 (by decide) (fun h => absurd h (by decide)) (fun _ => ?_)
  refine G_aload_n (pc := 892) dL_tables_892 rfl ?_
  refine G_iload_n (pc := 893) dL_tables_893 rfl ?_
  refine R_V (pc := 894) (k' := (16454, 138043)) mok_X9_state lk_L_77 (sh_k h.1) rfl rfl rfl rfl (aok0 rfl) dL_tables_894 (t_state h (f := 12) (fr_lt h (m := 13) (by decide +kernel) ⟨by decide, by decide⟩)) (by decide) u2_e rfl (fun Y' q => ?_)
  subst q
  refine G_val (w := nI 1) (by decide +kernel) ?_
  refine G_iconst (pc := 897) (v := nI 1) dL_tables_897 (by first | rfl | decide) ?_
  refine G_icmp_eq (pc := 898) (tgt := 903) dL_tables_898 (by decide) (fun _ => ?_) (fun h => absurd h (by decide))
  refine G_iincN (pc := 903) dL_tables_903 rfl (by decide) ?_
  show G _ _ _ _ _ _ [some (.ref 800000), some (.int ((-73))), some (.int (nI 13))] [] _
  refine G_goto (pc := 906) (tgt := 836) dL_tables_906 (by decide) ?_
  refine G_iload_n (pc := 836) dL_tables_836 rfl ?_
  refine G_bipush (pc := 837) (v := nI 21) dL_tables_837 (by first | rfl | decide) ?_
  refine G_icmp_ge (pc := 839) (tgt := 909) dL_tables_839 (by decide) (fun h => absurd h (by decide)) (fun _ => ?_)
  refine G_aload_n (pc := 842) dL_tables_842 rfl ?_
  refine G_bipush (pc := 843) (v := nI 6) dL_tables_843 (by first | rfl | decide) ?_
  refine G_iconst (pc := 845) (v := nI 0) dL_tables_845 (by first | rfl | decide) ?_
  refine G_iload_n (pc := 846) dL_tables_846 rfl ?_
  refine G_bipush (pc := 847) (v := nI 7) dL_tables_847 (by first | rfl | decide) ?_
  refine G_iremN (pc := 849) (by omega) (by omega) (by omega) dL_tables_849 ?_
  refine G_val (w := nI 6) (by decide) ?_
  refine G_bipush (pc := 850) (v := nI 7) dL_tables_850 (by first | rfl | decide) ?_
  refine K_SW5 (pc := 852) (k' := (16466, 138143)) mok_L_act lk_L_122 rfl (by exact (fun _ => ⟨rfl, fun r hr => by rw [List.mem_singleton.mp (show r ∈ [800000] from hr), sh_k h.1]; decide, fun _ hr => nomatch hr⟩)) dL_tables_852 (act_6 (QV' := QA 77 _ _ (nI 13)) (x := nI 0) (y := nI 6) (z := nI 7) h.1 (k_begin hG h (by decide) (t := 0) (a := 6) (c := 7) (z := nI 1) (m := 13) (by decide) (by decide) (by decide) (Or.inr rfl) (by decide +kernel) (by decide)) es_5 (fun Z' _ q => ⟨congrArg (fun t => some (Value.int t)) (by decide +kernel), q⟩) (fun i E Z' q1 q2 _ => no_x (by decide) (by decide +kernel) q1 q2)) rfl (fun v Y' q => ?_) (fun E Y' q => q.elim)
  obtain ⟨rfl, -, g', A', h'⟩ := q
  show G _ _ _ _ _ _ _ (_ :: _) _
  exact kk _ _ _ (CI_frz h' (by decide +kernel) (by decide +kernel))
theorem tq_78 {Γ : GTy} (hG : GS Γ) {W : WTy} {Z : HS} {g : GN} {A : FT} (h : CI 78 Z (toF tqN_63) g A) (kk : ∀ (Z' : HS) (g' : GN) (A' : FT), CI 79 Z' (toF tqN_64) g' A' → G Γ M_L_tables (rm M_L_tables) W (16468, 138155) 880 [some (.ref 800000), some (.int ((-73))), some (.int (nI 13))] [.int (nI 0)] Z') : G Γ M_L_tables (rm M_L_tables) W (16466, 138143) 855 [some (.ref 800000), some (.int ((-73))), some (.int (nI 13))] [.int (nI 13)] Z := by
  refine G_iload_n (pc := 855) dL_tables_855 rfl ?_
  refine G_bipush (pc := 856) (v := nI 20) dL_tables_856 (by first | rfl | decide) ?_
  refine G_icmp_ge (pc := 858) (tgt := 865) dL_tables_858 (by decide) (fun h => absurd h (by decide)) (fun _ => ?_)
  refine G_iload_n (pc := 861) dL_tables_861 rfl ?_
  refine G_goto (pc := 862) (tgt := 866) dL_tables_862 (by decide) ?_
  refine G_icmp_ne (pc := 866) (tgt := 901) dL_tables_866 (by decide) (fun h => absurd h (by decide)) (fun _ => ?_)
  refine G_iload_n (pc := 869) dL_tables_869 rfl ?_
  refine G_bipush (pc := 870) (v := nI 20) dL_tables_870 (by first | rfl | decide) ?_
  refine G_icmp_ge (pc := 872) (tgt := 903) dL_tables_872 (by decide) (fun h => absurd h (by decide)) (fun _ => ?_)
  refine G_aload_n (pc := 875) dL_tables_875 rfl ?_
  refine G_iconst (pc := 876) (v := nI 0) dL_tables_876 (by first | rfl | decide) ?_
  refine R_V (pc := 877) (k' := (16468, 138155)) mok_X9_tear lk_L_20 (sh_k h.1) rfl rfl rfl rfl (aok0 rfl) dL_tables_877 (k_tear h (by decide) (t := 0) (r := 0) (k := 14) (by decide) (by decide +kernel) (by decide +kernel) ⟨by decide, by decide⟩) (by decide) (by decide +kernel) rfl (fun Y' q => ?_)
  obtain ⟨-, g', A', h'⟩ := q
  refine G_val (w := nI 0) (by decide +kernel) ?_
  exact kk _ _ _ (CI_frz h' (by decide +kernel) (by decide +kernel))
theorem tq_79 {Γ : GTy} (hG : GS Γ) {W : WTy} {Z : HS} {g : GN} {A : FT} (h : CI 79 Z (toF tqN_64) g A) (kk : ∀ (Z' : HS) (g' : GN) (A' : FT), CI 80 Z' (toF tqN_65) g' A' → G Γ M_L_tables (rm M_L_tables) W (16470, 138167) 888 [some (.ref 800000), some (.int ((-73))), some (.int (nI 13))] [.int (nI 3)] Z') : G Γ M_L_tables (rm M_L_tables) W (16468, 138155) 880 [some (.ref 800000), some (.int ((-73))), some (.int (nI 13))] [.int (nI 0)] Z := by
  refine G_if_ne (pc := 880) (tgt := 901) dL_tables_880 (by decide) (fun h => absurd h (by decide)) (fun _ => ?_)
  refine G_aload_n (pc := 883) dL_tables_883 rfl ?_
  refine G_iconst (pc := 884) (v := nI 0) dL_tables_884 (by first | rfl | decide) ?_
  refine R_V (pc := 885) (k' := (16470, 138167)) mok_X9_mend lk_L_23 (sh_k h.1) rfl rfl rfl rfl (aok0 rfl) dL_tables_885 (m_mend h (by decide) (t := 0) (by decide)) (by decide) (by decide +kernel) rfl (fun Y' q => ?_)
  obtain ⟨-, g', A', h'⟩ := q
  refine G_val (w := nI 3) (by decide +kernel) ?_
  exact kk _ _ _ (CI_frz h' (by decide +kernel) (by decide +kernel))
