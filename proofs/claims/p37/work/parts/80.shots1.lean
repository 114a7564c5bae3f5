-- ===== shots: stretches 22 to 43 =====
theorem sh_22 {Γ : GTy} (hG : GS Γ) {W : WTy} {Z : HS} {g : GN} {A : FT} (h : CI 13 Z (toF shN_10) g A) (kk : ∀ (Z' : HS) (g' : GN) (A' : FT), CI 14 Z' (toF shN_11) g' A' → G Γ M_L_shots (rm M_L_shots) W (5671, 48289) 633 [some (.ref 800000)] [.int (nI 2)] Z') : G Γ M_L_shots (rm M_L_shots) W (5638, 48087) 588 [some (.ref 800000)] [.int (nI 0)] Z := by
  refine G_if_ne (pc := 588) (tgt := 832) dL_shots_588 (by decide) (fun h => absurd h (by decide)) (fun _ => ?_)
  refine G_aload_n (pc := 591) dL_shots_591 rfl ?_
  refine G_iconst (pc := 592) (v := nI 1) dL_shots_592 (by first | rfl | decide) ?_
  refine G_bipush (pc := 593) (v := nI 74) dL_shots_593 (by first | rfl | decide) ?_
  refine G_bipush (pc := 595) (v := nI 76) dL_shots_595 (by first | rfl | decide) ?_
  refine G_bipush (pc := 597) (v := nI 59) dL_shots_597 (by first | rfl | decide) ?_
  refine G_bipush (pc := 599) (v := nI 91) dL_shots_599 (by first | rfl | decide) ?_
  refine G_bipush (pc := 601) (v := nI 77) dL_shots_601 (by first | rfl | decide) ?_
  refine G_bipush (pc := 603) (v := nI 79) dL_shots_603 (by first | rfl | decide) ?_
  refine R_S (pc := 605) (k' := (5654, 48183)) (as := [.ref 800000, .int (nI 1), .int (nI 74), .int (nI 76), .int (nI 59), .int (nI 91), .int (nI 77), .int (nI 79)]) mok_L_bed lk_L_140 rfl rfl rfl (aok0 rfl) dL_shots_605 (C_bed h (fr_lt h (m := 2) (by decide +kernel) ⟨by decide, by decide⟩) (by decide +kernel) (by decide +kernel) (by decide +kernel) (by decide +kernel) (by decide +kernel) (by decide +kernel) (by decide +kernel) (by decide +kernel)) rfl (fun v Y' q => ?_)
  obtain ⟨rfl, rfl⟩ := q
  show G _ _ _ _ _ _ _ (_ :: _) _
  refine G_if_eq (pc := 608) (tgt := 832) dL_shots_608 (by decide) (fun h => absurd h (by decide)) (fun _ => ?_)
  refine G_aload_n (pc := 611) dL_shots_611 rfl ?_
  refine G_iconst (pc := 612) (v := nI 1) dL_shots_612 (by first | rfl | decide) ?_
  refine G_iconst (pc := 613) (v := nI 1) dL_shots_613 (by first | rfl | decide) ?_
  refine G_iconst (pc := 614) (v := nI 0) dL_shots_614 (by first | rfl | decide) ?_
  refine G_iconst (pc := 615) (v := nI 5) dL_shots_615 (by first | rfl | decide) ?_
  refine G_iconst (pc := 616) (v := nI 0) dL_shots_616 (by first | rfl | decide) ?_
  refine G_iconst (pc := 617) (v := nI 0) dL_shots_617 (by first | rfl | decide) ?_
  refine R_S (pc := 618) (k' := (5661, 48225)) (as := [.ref 800000, .int (nI 1), .int (nI 1), .int (nI 0), .int (nI 5), .int (nI 0), .int (nI 0)]) mok_L_frame lk_L_144 rfl rfl rfl (aok0 rfl) dL_shots_618 (C_frame h (fr_lt h (m := 2) (by decide +kernel) ⟨by decide, by decide⟩) (by decide +kernel) (by decide +kernel) (by decide +kernel) (by decide +kernel) (by decide +kernel) (by decide +kernel) (by decide +kernel)) rfl (fun v Y' q => ?_)
  obtain ⟨rfl, rfl⟩ := q
  show G _ _ _ _ _ _ _ (_ :: _) _
  refine G_if_eq (pc := 621) (tgt := 832) dL_shots_621 (by decide) (fun h => absurd h (by decide)) (fun _ => ?_)
  refine G_aload_n (pc := 624) dL_shots_624 rfl ?_
  refine G_iconst (pc := 625) (v := nI 2) dL_shots_625 (by first | rfl | decide) ?_
  refine G_iconst (pc := 626) (v := nI 4) dL_shots_626 (by first | rfl | decide) ?_
  refine G_bipush (pc := 627) (v := nI 6) dL_shots_627 (by first | rfl | decide) ?_
  refine G_iconst (pc := 629) (v := nI 1) dL_shots_629 (by first | rfl | decide) ?_
  refine R_V (pc := 630) (k' := (5671, 48289)) mok_X9_begin lk_L_29 (sh_k h.1) rfl rfl rfl rfl (by exact (fun _ => ⟨rfl, fun r hr => by rw [List.mem_singleton.mp (show r ∈ [800000] from hr), sh_k h.1]; decide, fun _ hr => nomatch hr⟩)) dL_shots_630 (k_begin hG h (by decide) (t := 2) (a := 4) (c := 6) (z := nI 1) (m := 2) (by decide) (by decide) (by decide) (Or.inr rfl) (by decide +kernel) (by decide)) (by decide) (by decide +kernel) rfl (fun Y' q => ?_)
  obtain ⟨-, g', A', h'⟩ := q
  refine G_val (w := nI 2) (by decide +kernel) ?_
  exact kk _ _ _ (CI_frz h' (by decide +kernel) (by decide +kernel))
theorem sh_23 {Γ : GTy} (hG : GS Γ) {W : WTy} {Z : HS} {g : GN} {A : FT} (h : CI 14 Z (toF shN_11) g A) (kk : ∀ (Z' : HS) (g' : GN) (A' : FT), CI 15 Z' (toF shN_12) g' A' → G Γ M_L_shots (rm M_L_shots) W (5675, 48310) 643 [some (.ref 800000)] [.int (nI 0)] Z') : G Γ M_L_shots (rm M_L_shots) W (5671, 48289) 633 [some (.ref 800000)] [.int (nI 2)] Z := by
  refine G_iconst (pc := 633) (v := nI 2) dL_shots_633 (by first | rfl | decide) ?_
  refine G_icmp_ne (pc := 634) (tgt := 832) dL_shots_634 (by decide) (fun h => absurd h (by decide)) (fun _ => ?_)
  refine G_aload_n (pc := 637) dL_shots_637 rfl ?_
  refine G_iconst (pc := 638) (v := nI 1) dL_shots_638 (by first | rfl | decide) ?_
  refine G_iconst (pc := 639) (v := nI 4) dL_shots_639 (by first | rfl | decide) ?_
  refine R_V (pc := 640) (k' := (5675, 48310)) mok_X9_lend lk_L_40 (sh_k h.1) rfl rfl rfl rfl (by exact (fun _ => ⟨rfl, fun r hr => by rw [List.mem_singleton.mp (show r ∈ [800000] from hr), sh_k h.1]; decide, fun _ hr => nomatch hr⟩)) dL_shots_640 (m_lend h (by decide) (u := 1) (c := 4) (by decide) (by decide)) (by decide) (by decide +kernel) rfl (fun Y' q => ?_)
  obtain ⟨-, g', A', h'⟩ := q
  refine G_val (w := nI 0) (by decide +kernel) ?_
  exact kk _ _ _ (CI_frz h' (by decide +kernel) (by decide +kernel))
theorem sh_24 {Γ : GTy} (hG : GS Γ) {W : WTy} {Z : HS} {g : GN} {A : FT} (h : CI 15 Z (toF shN_12) g A) (kk : ∀ (Z' : HS) (g' : GN) (A' : FT), CI 16 Z' (toF shN_13) g' A' → G Γ M_L_shots (rm M_L_shots) W (5679, 48334) 654 [some (.ref 800000)] [.int ((-4))] Z') : G Γ M_L_shots (rm M_L_shots) W (5675, 48310) 643 [some (.ref 800000)] [.int (nI 0)] Z := by
  refine G_if_ne (pc := 643) (tgt := 832) dL_shots_643 (by decide) (fun h => absurd h (by decide)) (fun _ => ?_)
  refine G_aload_n (pc := 646) dL_shots_646 rfl ?_
  refine G_iconst (pc := 647) (v := nI 2) dL_shots_647 (by first | rfl | decide) ?_
  refine G_iconst (pc := 648) (v := nI 0) dL_shots_648 (by first | rfl | decide) ?_
  refine G_bipush (pc := 649) (v := nI 40) dL_shots_649 (by first | rfl | decide) ?_
  refine R_V (pc := 651) (k' := (5679, 48334)) mok_X9_shoot lk_L_36 (sh_k h.1) rfl rfl rfl rfl (aok0 rfl) dL_shots_651 (k_shoot hG h (by decide) (f := 2) (d := 0) (c := 4) (u := 0) (z := nI 40) (fr_lt h (m := 3) (by decide +kernel) ⟨by decide, by decide⟩) (by decide) ⟨by decide, by decide⟩ (by decide +kernel) (by decide) (by decide +kernel) (by decide +kernel) (by decide) (shW_1 (N := 6668014431327336181779142855572278308682255767059022143279561200624985199791581118835055314540675881914283432642945509748757728447947785036248541660886542771053976903477918607622904123171740496044806631288427777049426380507793535711448137779) (w := nI 40) (v := 1) (by decide +kernel) (by decide) (by decide +kernel) (by decide +kernel))) (by decide) (by decide +kernel) rfl (fun Y' q => ?_)
  obtain ⟨-, g', A', h'⟩ := q
  refine G_val (w := (-4)) (by decide +kernel) ?_
  exact kk _ _ _ (CI_frz h' (by decide +kernel) (by decide +kernel))
theorem sh_25 {Γ : GTy} (hG : GS Γ) {W : WTy} {Z : HS} {g : GN} {A : FT} (h : CI 16 Z (toF shN_13) g A) (kk : ∀ (Z' : HS) (g' : GN) (A' : FT), CI 17 Z' (toF shN_14) g' A' → G Γ M_L_shots (rm M_L_shots) W (5707, 48502) 718 [some (.ref 800000)] [.int (nI 18)] Z') : G Γ M_L_shots (rm M_L_shots) W (5679, 48334) 654 [some (.ref 800000)] [.int ((-4))] Z := by
  refine G_bipush (pc := 654) (v := (-4)) dL_shots_654 (by first | rfl | decide) ?_
  refine G_icmp_ne (pc := 656) (tgt := 832) dL_shots_656 (by decide) (fun h => absurd h (by decide)) (fun _ => ?_)
  refine G_aload_n (pc := 659) dL_shots_659 rfl ?_
  refine G_iconst (pc := 660) (v := nI 2) dL_shots_660 (by first | rfl | decide) ?_
  refine G_bipush (pc := 661) (v := nI 51) dL_shots_661 (by first | rfl | decide) ?_
  refine G_bipush (pc := 663) (v := nI 74) dL_shots_663 (by first | rfl | decide) ?_
  refine G_bipush (pc := 665) (v := nI 59) dL_shots_665 (by first | rfl | decide) ?_
  refine G_bipush (pc := 667) (v := nI 91) dL_shots_667 (by first | rfl | decide) ?_
  refine G_bipush (pc := 669) (v := nI 76) dL_shots_669 (by first | rfl | decide) ?_
  refine G_bipush (pc := 671) (v := nI 77) dL_shots_671 (by first | rfl | decide) ?_
  refine R_S (pc := 673) (k' := (5695, 48430)) (as := [.ref 800000, .int (nI 2), .int (nI 51), .int (nI 74), .int (nI 59), .int (nI 91), .int (nI 76), .int (nI 77)]) mok_L_bed lk_L_140 rfl rfl rfl (aok0 rfl) dL_shots_673 (C_bed h (fr_lt h (m := 3) (by decide +kernel) ⟨by decide, by decide⟩) (by decide +kernel) (by decide +kernel) (by decide +kernel) (by decide +kernel) (by decide +kernel) (by decide +kernel) (by decide +kernel) (by decide +kernel)) rfl (fun v Y' q => ?_)
  obtain ⟨rfl, rfl⟩ := q
  show G _ _ _ _ _ _ _ (_ :: _) _
  refine G_if_eq (pc := 676) (tgt := 832) dL_shots_676 (by decide) (fun h => absurd h (by decide)) (fun _ => ?_)
  refine G_aload_n (pc := 679) dL_shots_679 rfl ?_
  refine G_iconst (pc := 680) (v := nI 2) dL_shots_680 (by first | rfl | decide) ?_
  refine G_iconst (pc := 681) (v := nI 1) dL_shots_681 (by first | rfl | decide) ?_
  refine G_iconst (pc := 682) (v := nI 1) dL_shots_682 (by first | rfl | decide) ?_
  refine G_bipush (pc := 683) (v := nI 6) dL_shots_683 (by first | rfl | decide) ?_
  refine G_iconst (pc := 685) (v := nI 0) dL_shots_685 (by first | rfl | decide) ?_
  refine G_iconst (pc := 686) (v := nI 4) dL_shots_686 (by first | rfl | decide) ?_
  refine R_S (pc := 687) (k' := (5702, 48472)) (as := [.ref 800000, .int (nI 2), .int (nI 1), .int (nI 1), .int (nI 6), .int (nI 0), .int (nI 4)]) mok_L_frame lk_L_144 rfl rfl rfl (aok0 rfl) dL_shots_687 (C_frame h (fr_lt h (m := 3) (by decide +kernel) ⟨by decide, by decide⟩) (by decide +kernel) (by decide +kernel) (by decide +kernel) (by decide +kernel) (by decide +kernel) (by decide +kernel) (by decide +kernel)) rfl (fun v Y' q => ?_)
  obtain ⟨rfl, rfl⟩ := q
  show G _ _ _ _ _ _ _ (_ :: _) _
  refine G_if_eq (pc := 690) (tgt := 832) dL_shots_690 (by decide) (fun h => absurd h (by decide)) (fun _ => ?_)
  refine G_aload_n (pc := 693) dL_shots_693 rfl ?_
  refine G_iconst (pc := 694) (v := nI 1) dL_shots_694 (by first | rfl | decide) ?_
  refine R_V (pc := 695) (k' := (5703, 48478)) mok_X9_wear lk_L_105 (sh_k h.1) rfl rfl rfl rfl (aok0 rfl) dL_shots_695 (t_wear h (u := 1) (by decide)) (by decide) u2_e rfl (fun Y' q => ?_)
  subst q
  refine G_val (w := nI 11) (by decide +kernel) ?_
  refine G_bipush (pc := 698) (v := nI 11) dL_shots_698 (by first | rfl | decide) ?_
  refine G_icmp_ne (pc := 700) (tgt := 832) dL_shots_700 (by decide) (fun h => absurd h (by decide)) (fun _ => ?_)
  refine G_aload_n (pc := 703) dL_shots_703 rfl ?_
  refine G_iconst (pc := 704) (v := nI 4) dL_shots_704 (by first | rfl | decide) ?_
  refine G_bipush (pc := 705) (v := nI 20) dL_shots_705 (by first | rfl | decide) ?_
  refine R_S (pc := 707) (k' := (5705, 48490)) (as := [.ref 800000, .int (nI 4), .int (nI 20)]) mok_L_owe lk_L_136 rfl rfl rfl (aok0 rfl) dL_shots_707 (C_owe h (by decide) (by decide +kernel)) rfl (fun v Y' q => ?_)
  obtain ⟨rfl, rfl⟩ := q
  show G _ _ _ _ _ _ _ (_ :: _) _
  refine G_if_eq (pc := 710) (tgt := 832) dL_shots_710 (by decide) (fun h => absurd h (by decide)) (fun _ => ?_)
  refine G_aload_n (pc := 713) dL_shots_713 rfl ?_
  refine G_iconst (pc := 714) (v := nI 1) dL_shots_714 (by first | rfl | decide) ?_
  refine R_V (pc := 715) (k' := (5707, 48502)) mok_X9_takeBack lk_L_43 (sh_k h.1) rfl rfl rfl rfl (aok0 rfl) dL_shots_715 (k_takeBack h (by decide) (u := 1) (l := 5) (by decide) (by decide +kernel) (by decide)) (by decide) (by decide +kernel) rfl (fun Y' q => ?_)
  obtain ⟨-, g', A', h'⟩ := q
  refine G_val (w := nI 18) (by decide +kernel) ?_
  exact kk _ _ _ (CI_frz h' (by decide +kernel) (by decide +kernel))
theorem sh_26 {Γ : GTy} (hG : GS Γ) {W : WTy} {Z : HS} {g : GN} {A : FT} (h : CI 17 Z (toF shN_14) g A) (kk : ∀ (Z' : HS) (g' : GN) (A' : FT), CI 18 Z' (toF shN_15) g' A' → G Γ M_L_shots (rm M_L_shots) W (5713, 48535) 738 [some (.ref 800000)] [.int (nI 11)] Z') : G Γ M_L_shots (rm M_L_shots) W (5707, 48502) 718 [some (.ref 800000)] [.int (nI 18)] Z := by
  refine G_bipush (pc := 718) (v := nI 18) dL_shots_718 (by first | rfl | decide) ?_
  refine G_icmp_ne (pc := 720) (tgt := 832) dL_shots_720 (by decide) (fun h => absurd h (by decide)) (fun _ => ?_)
  refine G_aload_n (pc := 723) dL_shots_723 rfl ?_
  refine G_iconst (pc := 724) (v := nI 4) dL_shots_724 (by first | rfl | decide) ?_
  refine G_iconst (pc := 725) (v := nI 2) dL_shots_725 (by first | rfl | decide) ?_
  refine R_S (pc := 726) (k' := (5709, 48514)) (as := [.ref 800000, .int (nI 4), .int (nI 2)]) mok_L_owe lk_L_136 rfl rfl rfl (aok0 rfl) dL_shots_726 (C_owe h (by decide) (by decide +kernel)) rfl (fun v Y' q => ?_)
  obtain ⟨rfl, rfl⟩ := q
  show G _ _ _ _ _ _ _ (_ :: _) _
  refine G_if_eq (pc := 729) (tgt := 832) dL_shots_729 (by decide) (fun h => absurd h (by decide)) (fun _ => ?_)
  refine G_aload_n (pc := 732) dL_shots_732 rfl ?_
  refine G_iconst (pc := 733) (v := nI 1) dL_shots_733 (by first | rfl | decide) ?_
  refine G_iconst (pc := 734) (v := nI 4) dL_shots_734 (by first | rfl | decide) ?_
  refine R_V (pc := 735) (k' := (5713, 48535)) mok_X9_lend lk_L_40 (sh_k h.1) rfl rfl rfl rfl (by exact (fun _ => ⟨rfl, fun r hr => by rw [List.mem_singleton.mp (show r ∈ [800000] from hr), sh_k h.1]; decide, fun _ hr => nomatch hr⟩)) dL_shots_735 (m_lend h (by decide) (u := 1) (c := 4) (by decide) (by decide)) (by decide) (by decide +kernel) rfl (fun Y' q => ?_)
  obtain ⟨-, g', A', h'⟩ := q
  refine G_val (w := nI 11) (by decide +kernel) ?_
  exact kk _ _ _ (CI_frz h' (by decide +kernel) (by decide +kernel))
theorem sh_27 {Γ : GTy} (hG : GS Γ) {W : WTy} {Z : HS} {g : GN} {A : FT} (h : CI 18 Z (toF shN_15) g A) (kk : ∀ (Z' : HS) (g' : GN) (A' : FT), CI 19 Z' (toF shN_15) g' A' → G Γ M_L_shots (rm M_L_shots) W (5729, 48659) 774 [some (.ref 800000)] [.int ((-73))] Z') : G Γ M_L_shots (rm M_L_shots) W (5713, 48535) 738 [some (.ref 800000)] [.int (nI 11)] Z := by
  refine G_bipush (pc := 738) (v := nI 11) dL_shots_738 (by first | rfl | decide) ?_
  refine G_icmp_ne (pc := 740) (tgt := 832) dL_shots_740 (by decide) (fun h => absurd h (by decide)) (fun _ => ?_)
  refine G_aload_n (pc := 743) dL_shots_743 rfl ?_
  refine G_iconst (pc := 744) (v := nI 4) dL_shots_744 (by first | rfl | decide) ?_
  refine G_bipush (pc := 745) (v := nI 40) dL_shots_745 (by first | rfl | decide) ?_
  refine R_V (pc := 747) (k' := (5715, 48547)) mok_X9_force lk_L_108 (sh_k h.1) rfl rfl rfl rfl (aok0 rfl) dL_shots_747 (t_force h (c := 4) (z := nI 40) (by decide) ⟨by decide, by decide⟩) (by decide) u2_e rfl (fun Y' q => ?_)
  subst q
  refine G_val (w := nI 37) (by decide +kernel) ?_
  refine G_bipush (pc := 750) (v := nI 37) dL_shots_750 (by first | rfl | decide) ?_
  refine G_icmp_ne (pc := 752) (tgt := 832) dL_shots_752 (by decide) (fun h => absurd h (by decide)) (fun _ => ?_)
  refine G_aload_n (pc := 755) dL_shots_755 rfl ?_
  refine G_iconst (pc := 756) (v := nI 4) dL_shots_756 (by first | rfl | decide) ?_
  refine G_iconst (pc := 757) (v := nI 1) dL_shots_757 (by first | rfl | decide) ?_
  refine R_V (pc := 758) (k' := (5717, 48559)) mok_X9_force lk_L_108 (sh_k h.1) rfl rfl rfl rfl (aok0 rfl) dL_shots_758 (t_force h (c := 4) (z := nI 1) (by decide) ⟨by decide, by decide⟩) (by decide) u2_e rfl (fun Y' q => ?_)
  subst q
  refine G_val (w := nI 1) (by decide +kernel) ?_
  refine G_iconst (pc := 761) (v := nI 1) dL_shots_761 (by first | rfl | decide) ?_
  refine G_icmp_ne (pc := 762) (tgt := 832) dL_shots_762 (by decide) (fun h => absurd h (by decide)) (fun _ => ?_)
  refine G_aload_n (pc := 765) dL_shots_765 rfl ?_
  refine G_bipush (pc := 766) (v := nI 12) dL_shots_766 (by first | rfl | decide) ?_
  refine G_iconst (pc := 768) (v := nI 1) dL_shots_768 (by first | rfl | decide) ?_
  refine G_iconst (pc := 769) (v := nI 0) dL_shots_769 (by first | rfl | decide) ?_
  refine G_iconst (pc := 770) (v := nI 0) dL_shots_770 (by first | rfl | decide) ?_
  refine K_SW5 (pc := 771) (k' := (5729, 48659)) mok_L_act lk_L_122 rfl (by exact (fun _ => ⟨rfl, fun r hr => by rw [List.mem_singleton.mp (show r ∈ [800000] from hr), sh_k h.1]; decide, fun _ hr => nomatch hr⟩)) dL_shots_771 (act_12 (QV' := QA 18 _ _ ((-73))) (x := nI 1) (y := nI 0) (z := nI 0) h.1 (m_tip h (by decide) (u := 1) (by decide)) es_3 (fun Z' q _ => absurd q (by decide +kernel)) (fun i E Z' q1 q2 q3 => ⟨one_x (i0 := 1) (by decide) (by decide +kernel) rfl q1 q2 xc_IS, q3⟩)) rfl (fun v Y' q => ?_) (fun E Y' q => q.elim)
  obtain ⟨rfl, -, g', A', h'⟩ := q
  show G _ _ _ _ _ _ _ (_ :: _) _
  exact kk _ _ _ (CI_frz h' (by decide +kernel) (by decide +kernel))
theorem sh_28 {Γ : GTy} (hG : GS Γ) {W : WTy} {Z : HS} {g : GN} {A : FT} (h : CI 19 Z (toF shN_15) g A) (kk : ∀ (Z' : HS) (g' : GN) (A' : FT), CI 20 Z' (toF shN_16) g' A' → G Γ M_L_shots (rm M_L_shots) W (5731, 48671) 784 [some (.ref 800000)] [.int (nI 20)] Z') : G Γ M_L_shots (rm M_L_shots) W (5729, 48659) 774 [some (.ref 800000)] [.int ((-73))] Z := by
  refine G_bipush (pc := 774) (v := (-73)) dL_shots_774 (by first | rfl | decide) ?_
  refine G_icmp_ne (pc := 776) (tgt := 832) dL_shots_776 (by decide) (fun h => absurd h (by decide)) (fun _ => ?_)
  refine G_aload_n (pc := 779) dL_shots_779 rfl ?_
  refine G_iconst (pc := 780) (v := nI 1) dL_shots_780 (by first | rfl | decide) ?_
  refine R_V (pc := 781) (k' := (5731, 48671)) mok_X9_takeBack lk_L_43 (sh_k h.1) rfl rfl rfl rfl (aok0 rfl) dL_shots_781 (k_takeBack h (by decide) (u := 1) (l := 5) (by decide) (by decide +kernel) (by decide)) (by decide) (by decide +kernel) rfl (fun Y' q => ?_)
  obtain ⟨-, g', A', h'⟩ := q
  refine G_val (w := nI 20) (by decide +kernel) ?_
  exact kk _ _ _ (CI_frz h' (by decide +kernel) (by decide +kernel))
theorem sh_29 {Γ : GTy} (hG : GS Γ) {W : WTy} {Z : HS} {g : GN} {A : FT} (h : CI 20 Z (toF shN_16) g A) (kk : ∀ (Z' : HS) (g' : GN) (A' : FT), CI 21 Z' (toF shN_17) g' A' → G Γ M_L_shots (rm M_L_shots) W (5735, 48695) 803 [some (.ref 800000)] [.int (nI 11)] Z') : G Γ M_L_shots (rm M_L_shots) W (5731, 48671) 784 [some (.ref 800000)] [.int (nI 20)] Z := by
  refine G_bipush (pc := 784) (v := nI 20) dL_shots_784 (by first | rfl | decide) ?_
  refine G_icmp_ne (pc := 786) (tgt := 832) dL_shots_786 (by decide) (fun h => absurd h (by decide)) (fun _ => ?_)
  refine G_aload_n (pc := 789) dL_shots_789 rfl ?_
  refine G_iconst (pc := 790) (v := nI 4) dL_shots_790 (by first | rfl | decide) ?_
  refine G_iconst (pc := 791) (v := nI 2) dL_shots_791 (by first | rfl | decide) ?_
  refine R_S (pc := 792) (k' := (5733, 48683)) (as := [.ref 800000, .int (nI 4), .int (nI 2)]) mok_L_owe lk_L_136 rfl rfl rfl (aok0 rfl) dL_shots_792 (C_owe h (by decide) (by decide +kernel)) rfl (fun v Y' q => ?_)
  obtain ⟨rfl, rfl⟩ := q
  show G _ _ _ _ _ _ _ (_ :: _) _
  refine G_if_eq (pc := 795) (tgt := 832) dL_shots_795 (by decide) (fun h => absurd h (by decide)) (fun _ => ?_)
  refine G_aload_n (pc := 798) dL_shots_798 rfl ?_
  refine G_iconst (pc := 799) (v := nI 1) dL_shots_799 (by first | rfl | decide) ?_
  refine R_V (pc := 800) (k' := (5735, 48695)) mok_X9_tip lk_L_46 (sh_k h.1) rfl rfl rfl rfl (aok0 rfl) dL_shots_800 (m_tip h (by decide) (u := 1) (by decide)) (by decide) (by decide +kernel) rfl (fun Y' q => ?_)
  obtain ⟨-, g', A', h'⟩ := q
  refine G_val (w := nI 11) (by decide +kernel) ?_
  exact kk _ _ _ (CI_frz h' (by decide +kernel) (by decide +kernel))
theorem sh_30 {Γ : GTy} (hG : GS Γ) {W : WTy} {Z : HS} {g : GN} {A : FT} (h : CI 21 Z (toF shN_17) g A) (kk : ∀ (Z' : HS) (g' : GN) (A' : FT), CI 22 Z' (toF shN_17) g' A' → G Γ M_L_shots (rm M_L_shots) W (5738, 48713) 821 [some (.ref 800000)] [.int (nI 0)] Z') : G Γ M_L_shots (rm M_L_shots) W (5735, 48695) 803 [some (.ref 800000)] [.int (nI 11)] Z := by
  refine G_bipush (pc := 803) (v := nI 11) dL_shots_803 (by first | rfl | decide) ?_
  refine G_icmp_ne (pc := 805) (tgt := 832) dL_shots_805 (by decide) (fun h => absurd h (by decide)) (fun _ => ?_)
  refine G_aload_n (pc := 808) dL_shots_808 rfl ?_
  refine G_iconst (pc := 809) (v := nI 1) dL_shots_809 (by first | rfl | decide) ?_
  refine R_V (pc := 810) (k' := (5736, 48701)) mok_X9_wear lk_L_105 (sh_k h.1) rfl rfl rfl rfl (aok0 rfl) dL_shots_810 (t_wear h (u := 1) (by decide)) (by decide) u2_e rfl (fun Y' q => ?_)
  subst q
  refine G_val (w := nI 0) (by decide +kernel) ?_
  refine G_if_ne (pc := 813) (tgt := 832) dL_shots_813 (by decide) (fun h => absurd h (by decide)) (fun _ => ?_)
  refine G_aload_n (pc := 816) dL_shots_816 rfl ?_
  refine G_iconst (pc := 817) (v := nI 1) dL_shots_817 (by first | rfl | decide) ?_
  refine R_V (pc := 818) (k' := (5738, 48713)) mok_X9_tip lk_L_46 (sh_k h.1) rfl rfl rfl rfl (aok0 rfl) dL_shots_818 (m_tip h (by decide) (u := 1) (by decide)) (by decide) (by decide +kernel) rfl (fun Y' q => ?_)
  obtain ⟨-, g', A', h'⟩ := q
  refine G_val (w := nI 0) (by decide +kernel) ?_
  exact kk _ _ _ (CI_frz h' (by decide +kernel) (by decide +kernel))
theorem sh_31 {Γ : GTy} (hG : GS Γ) {W : WTy} {Z : HS} {g : GN} {A : FT} (h : CI 22 Z (toF shN_17) g A) (kk : ∀ (Z' : HS) (g' : GN) (A' : FT), CI 23 Z' (toF shN_18) g' A' → G Γ M_L_shots (rm M_L_shots) W (11048, 92777) 844 [some (.ref 800000)] [.int (nI 3)] Z') : G Γ M_L_shots (rm M_L_shots) W (5738, 48713) 821 [some (.ref 800000)] [.int (nI 0)] Z := by
  refine G_if_ne (pc := 821) (tgt := 832) dL_shots_821 (by decide) (fun h => absurd h (by decide)) (fun _ => ?_)
  refine G_aload_n (pc := 824) dL_shots_824 rfl ?_
  refine G_iconst (pc := 825) (v := nI 3) dL_shots_825 (by first | rfl | decide) ?_
  refine R_S (pc := 826) (k' := (11038, 92713)) (as := [.ref 800000, .int (nI 3)]) mok_L_refuses lk_L_132 rfl rfl rfl (by exact (fun _ => ⟨rfl, fun r hr => by rw [List.mem_singleton.mp (show r ∈ [800000] from hr), sh_k h.1]; decide, fun _ hr => nomatch hr⟩)) dL_shots_826 (k_refuses h (m := 3) (by decide +kernel) (by decide)) rfl (fun v Y' q => ?_)
  obtain ⟨rfl, rfl⟩ := q
  show G _ _ _ _ _ _ _ (_ :: _) _
  refine G_if_ne (pc := 829) (tgt := 834) dL_shots_829 (by decide) (fun _ => ?_) (fun h => absurd h (by decide))
  refine G_aload_n (pc := 834) dL_shots_834 rfl ?_
  refine G_iconst (pc := 835) (v := nI 3) dL_shots_835 (by first | rfl | decide) ?_
  refine G_bipush (pc := 836) (v := nI 6) dL_shots_836 (by first | rfl | decide) ?_
  refine G_bipush (pc := 838) (v := nI 7) dL_shots_838 (by first | rfl | decide) ?_
  refine G_iconst (pc := 840) (v := nI 1) dL_shots_840 (by first | rfl | decide) ?_
  refine R_V (pc := 841) (k' := (11048, 92777)) mok_X9_begin lk_L_29 (sh_k h.1) rfl rfl rfl rfl (by exact (fun _ => ⟨rfl, fun r hr => by rw [List.mem_singleton.mp (show r ∈ [800000] from hr), sh_k h.1]; decide, fun _ hr => nomatch hr⟩)) dL_shots_841 (k_begin hG h (by decide) (t := 3) (a := 6) (c := 7) (z := nI 1) (m := 3) (by decide) (by decide) (by decide) (Or.inr rfl) (by decide +kernel) (by decide)) (by decide) (by decide +kernel) rfl (fun Y' q => ?_)
  obtain ⟨-, g', A', h'⟩ := q
  refine G_val (w := nI 3) (by decide +kernel) ?_
  exact kk _ _ _ (CI_frz h' (by decide +kernel) (by decide +kernel))
theorem sh_32 {Γ : GTy} (hG : GS Γ) {W : WTy} {Z : HS} {g : GN} {A : FT} (h : CI 23 Z (toF shN_18) g A) (kk : ∀ (Z' : HS) (g' : GN) (A' : FT), CI 24 Z' (toF shN_19) g' A' → G Γ M_L_shots (rm M_L_shots) W (11052, 92801) 855 [some (.ref 800000)] [.int ((-4))] Z') : G Γ M_L_shots (rm M_L_shots) W (11048, 92777) 844 [some (.ref 800000)] [.int (nI 3)] Z := by
  refine G_iconst (pc := 844) (v := nI 3) dL_shots_844 (by first | rfl | decide) ?_
  refine G_icmp_ne (pc := 845) (tgt := 1042) dL_shots_845 (by decide) (fun h => absurd h (by decide)) (fun _ => ?_)
  refine G_aload_n (pc := 848) dL_shots_848 rfl ?_
  refine G_iconst (pc := 849) (v := nI 3) dL_shots_849 (by first | rfl | decide) ?_
  refine G_iconst (pc := 850) (v := nI 2) dL_shots_850 (by first | rfl | decide) ?_
  refine G_iconst (pc := 851) (v := nI 2) dL_shots_851 (by first | rfl | decide) ?_
  refine R_V (pc := 852) (k' := (11052, 92801)) mok_X9_shoot lk_L_36 (sh_k h.1) rfl rfl rfl rfl (aok0 rfl) dL_shots_852 (k_shoot hG h (by decide) (f := 3) (d := 2) (c := 6) (u := 0) (z := nI 2) (fr_lt h (m := 4) (by decide +kernel) ⟨by decide, by decide⟩) (by decide) ⟨by decide, by decide⟩ (by decide +kernel) (by decide) (by decide +kernel) (by decide +kernel) (by decide) (shW_0 (N := 6668014431327336181779142855572278308682255767059022143279561200624985199791581118835055314540675881914283432642945509748757728447947785036248541660886542771053976671893740132990513276029770478668990924748458445768298301592625519885188857924) (w := nI 1) (by decide +kernel) (by decide +kernel) (by decide +kernel))) (by decide) (by decide +kernel) rfl (fun Y' q => ?_)
  obtain ⟨-, g', A', h'⟩ := q
  refine G_val (w := (-4)) (by decide +kernel) ?_
  exact kk _ _ _ (CI_frz h' (by decide +kernel) (by decide +kernel))
theorem sh_33 {Γ : GTy} (hG : GS Γ) {W : WTy} {Z : HS} {g : GN} {A : FT} (h : CI 24 Z (toF shN_19) g A) (kk : ∀ (Z' : HS) (g' : GN) (A' : FT), CI 24 Z' (toF shN_19) g' A' → G Γ M_L_shots (rm M_L_shots) W (11065, 92879) 883 [some (.ref 800000)] [.int (nI 1)] Z') : G Γ M_L_shots (rm M_L_shots) W (11052, 92801) 855 [some (.ref 800000)] [.int ((-4))] Z := by
  refine G_bipush (pc := 855) (v := (-4)) dL_shots_855 (by first | rfl | decide) ?_
  refine G_icmp_ne (pc := 857) (tgt := 1042) dL_shots_857 (by decide) (fun h => absurd h (by decide)) (fun _ => ?_)
  refine G_aload_n (pc := 860) dL_shots_860 rfl ?_
  refine G_iconst (pc := 861) (v := nI 3) dL_shots_861 (by first | rfl | decide) ?_
  refine G_iconst (pc := 862) (v := nI 1) dL_shots_862 (by first | rfl | decide) ?_
  refine G_iconst (pc := 863) (v := nI 0) dL_shots_863 (by first | rfl | decide) ?_
  refine G_bipush (pc := 864) (v := nI 7) dL_shots_864 (by first | rfl | decide) ?_
  refine G_iconst (pc := 866) (v := nI 0) dL_shots_866 (by first | rfl | decide) ?_
  refine G_iconst (pc := 867) (v := nI 4) dL_shots_867 (by first | rfl | decide) ?_
  refine R_S (pc := 868) (k' := (11059, 92843)) (as := [.ref 800000, .int (nI 3), .int (nI 1), .int (nI 0), .int (nI 7), .int (nI 0), .int (nI 4)]) mok_L_frame lk_L_144 rfl rfl rfl (aok0 rfl) dL_shots_868 (C_frame h (fr_lt h (m := 4) (by decide +kernel) ⟨by decide, by decide⟩) (by decide +kernel) (by decide +kernel) (by decide +kernel) (by decide +kernel) (by decide +kernel) (by decide +kernel) (by decide +kernel)) rfl (fun v Y' q => ?_)
  obtain ⟨rfl, rfl⟩ := q
  show G _ _ _ _ _ _ _ (_ :: _) _
  refine G_if_eq (pc := 871) (tgt := 1042) dL_shots_871 (by decide) (fun h => absurd h (by decide)) (fun _ => ?_)
  refine G_aload_n (pc := 874) dL_shots_874 rfl ?_
  refine G_iconst (pc := 875) (v := nI 3) dL_shots_875 (by first | rfl | decide) ?_
  refine G_iconst (pc := 876) (v := nI 1) dL_shots_876 (by first | rfl | decide) ?_
  refine G_bipush (pc := 877) (v := nI 13) dL_shots_877 (by first | rfl | decide) ?_
  refine G_iconst (pc := 879) (v := nI 4) dL_shots_879 (by first | rfl | decide) ?_
  refine R_S (pc := 880) (k' := (11065, 92879)) (as := [.ref 800000, .int (nI 3), .int (nI 1), .int (nI 13), .int (nI 4)]) mok_L_meets lk_L_148 rfl rfl rfl (aok0 rfl) dL_shots_880 (k_meets hG h (N := 916444925417870816276025539158515656736278643674964919341903795149772472640627186126371726697846590589887478275637003640655408475095149438353985448810706176424743568567324543969420407460016928671866611861777395355926375519872561256655036155929227690043) (fr_lt h (m := 4) (by decide +kernel) ⟨by decide, by decide⟩) (by decide) ⟨by decide, by decide⟩ (by decide +kernel) (by decide +kernel)) rfl (fun v Y' q => ?_)
  obtain ⟨rfl, q2⟩ := q
  show G _ _ _ _ _ _ _ (_ :: _) _
  exact kk _ _ _ q2
theorem sh_34 {Γ : GTy} (hG : GS Γ) {W : WTy} {Z : HS} {g : GN} {A : FT} (h : CI 24 Z (toF shN_19) g A) (kk : ∀ (Z' : HS) (g' : GN) (A' : FT), CI 25 Z' (toF shN_20) g' A' → G Γ M_L_shots (rm M_L_shots) W (11069, 92903) 894 [some (.ref 800000)] [.int ((-4))] Z') : G Γ M_L_shots (rm M_L_shots) W (11065, 92879) 883 [some (.ref 800000)] [.int (nI 1)] Z := by
  refine G_if_eq (pc := 883) (tgt := 1042) dL_shots_883 (by decide) (fun h => absurd h (by decide)) (fun _ => ?_)
  refine G_aload_n (pc := 886) dL_shots_886 rfl ?_
  refine G_iconst (pc := 887) (v := nI 3) dL_shots_887 (by first | rfl | decide) ?_
  refine G_iconst (pc := 888) (v := nI 1) dL_shots_888 (by first | rfl | decide) ?_
  refine G_bipush (pc := 889) (v := nI 18) dL_shots_889 (by first | rfl | decide) ?_
  refine R_V (pc := 891) (k' := (11069, 92903)) mok_X9_shoot lk_L_36 (sh_k h.1) rfl rfl rfl rfl (aok0 rfl) dL_shots_891 (k_shoot hG h (by decide) (f := 3) (d := 1) (c := 7) (u := 1) (z := nI 18) (fr_lt h (m := 4) (by decide +kernel) ⟨by decide, by decide⟩) (by decide) ⟨by decide, by decide⟩ (by decide +kernel) (by decide) (by decide +kernel) (by decide +kernel) (by decide) (shW_0 (N := 916444925417870816276025539158515656736278643674964919341903795149772472640627186126371726697846590589887478275637003640655408475095149438353985448810706176424743568567324543969420407460016928671866611861777395355926375519872561256655036155929227690043) (w := nI 13) (by decide +kernel) (by decide +kernel) (by decide +kernel))) (by decide) (by decide +kernel) rfl (fun Y' q => ?_)
  obtain ⟨-, g', A', h'⟩ := q
  refine G_val (w := (-4)) (by decide +kernel) ?_
  exact kk _ _ _ (CI_frz h' (by decide +kernel) (by decide +kernel))
theorem sh_35 {Γ : GTy} (hG : GS Γ) {W : WTy} {Z : HS} {g : GN} {A : FT} (h : CI 25 Z (toF shN_20) g A) (kk : ∀ (Z' : HS) (g' : GN) (A' : FT), CI 26 Z' (toF shN_21) g' A' → G Γ M_L_shots (rm M_L_shots) W (11094, 93053) 938 [some (.ref 800000)] [.int (nI 0)] Z') : G Γ M_L_shots (rm M_L_shots) W (11069, 92903) 894 [some (.ref 800000)] [.int ((-4))] Z := by
  refine G_bipush (pc := 894) (v := (-4)) dL_shots_894 (by first | rfl | decide) ?_
  refine G_icmp_ne (pc := 896) (tgt := 1042) dL_shots_896 (by decide) (fun h => absurd h (by decide)) (fun _ => ?_)
  refine G_aload_n (pc := 899) dL_shots_899 rfl ?_
  refine G_iconst (pc := 900) (v := nI 3) dL_shots_900 (by first | rfl | decide) ?_
  refine G_bipush (pc := 901) (v := nI 59) dL_shots_901 (by first | rfl | decide) ?_
  refine G_bipush (pc := 903) (v := nI 74) dL_shots_903 (by first | rfl | decide) ?_
  refine G_bipush (pc := 905) (v := nI 93) dL_shots_905 (by first | rfl | decide) ?_
  refine G_bipush (pc := 907) (v := nI 91) dL_shots_907 (by first | rfl | decide) ?_
  refine G_bipush (pc := 909) (v := nI 76) dL_shots_909 (by first | rfl | decide) ?_
  refine G_bipush (pc := 911) (v := nI 77) dL_shots_911 (by first | rfl | decide) ?_
  refine R_S (pc := 913) (k' := (11085, 92999)) (as := [.ref 800000, .int (nI 3), .int (nI 59), .int (nI 74), .int (nI 93), .int (nI 91), .int (nI 76), .int (nI 77)]) mok_L_bed lk_L_140 rfl rfl rfl (aok0 rfl) dL_shots_913 (C_bed h (fr_lt h (m := 4) (by decide +kernel) ⟨by decide, by decide⟩) (by decide +kernel) (by decide +kernel) (by decide +kernel) (by decide +kernel) (by decide +kernel) (by decide +kernel) (by decide +kernel) (by decide +kernel)) rfl (fun v Y' q => ?_)
  obtain ⟨rfl, rfl⟩ := q
  show G _ _ _ _ _ _ _ (_ :: _) _
  refine G_if_eq (pc := 916) (tgt := 1042) dL_shots_916 (by decide) (fun h => absurd h (by decide)) (fun _ => ?_)
  refine G_aload_n (pc := 919) dL_shots_919 rfl ?_
  refine G_iconst (pc := 920) (v := nI 3) dL_shots_920 (by first | rfl | decide) ?_
  refine G_iconst (pc := 921) (v := nI 1) dL_shots_921 (by first | rfl | decide) ?_
  refine G_iconst (pc := 922) (v := nI 0) dL_shots_922 (by first | rfl | decide) ?_
  refine G_bipush (pc := 923) (v := nI 6) dL_shots_923 (by first | rfl | decide) ?_
  refine G_iconst (pc := 925) (v := nI 4) dL_shots_925 (by first | rfl | decide) ?_
  refine G_iconst (pc := 926) (v := nI 4) dL_shots_926 (by first | rfl | decide) ?_
  refine R_S (pc := 927) (k' := (11092, 93041)) (as := [.ref 800000, .int (nI 3), .int (nI 1), .int (nI 0), .int (nI 6), .int (nI 4), .int (nI 4)]) mok_L_frame lk_L_144 rfl rfl rfl (aok0 rfl) dL_shots_927 (C_frame h (fr_lt h (m := 4) (by decide +kernel) ⟨by decide, by decide⟩) (by decide +kernel) (by decide +kernel) (by decide +kernel) (by decide +kernel) (by decide +kernel) (by decide +kernel) (by decide +kernel)) rfl (fun v Y' q => ?_)
  obtain ⟨rfl, rfl⟩ := q
  show G _ _ _ _ _ _ _ (_ :: _) _
  refine G_if_eq (pc := 930) (tgt := 1042) dL_shots_930 (by decide) (fun h => absurd h (by decide)) (fun _ => ?_)
  refine G_aload_n (pc := 933) dL_shots_933 rfl ?_
  refine G_iconst (pc := 934) (v := nI 0) dL_shots_934 (by first | rfl | decide) ?_
  refine R_V (pc := 935) (k' := (11094, 93053)) mok_X9_tear lk_L_20 (sh_k h.1) rfl rfl rfl rfl (aok0 rfl) dL_shots_935 (k_tear h (by decide) (t := 0) (r := 0) (k := 1) (by decide) (by decide +kernel) (by decide +kernel) ⟨by decide, by decide⟩) (by decide) (by decide +kernel) rfl (fun Y' q => ?_)
  obtain ⟨-, g', A', h'⟩ := q
  refine G_val (w := nI 0) (by decide +kernel) ?_
  exact kk _ _ _ (CI_frz h' (by decide +kernel) (by decide +kernel))
theorem sh_36 {Γ : GTy} (hG : GS Γ) {W : WTy} {Z : HS} {g : GN} {A : FT} (h : CI 26 Z (toF shN_21) g A) (kk : ∀ (Z' : HS) (g' : GN) (A' : FT), CI 27 Z' (toF shN_22) g' A' → G Γ M_L_shots (rm M_L_shots) W (11096, 93065) 946 [some (.ref 800000)] [.int (nI 4)] Z') : G Γ M_L_shots (rm M_L_shots) W (11094, 93053) 938 [some (.ref 800000)] [.int (nI 0)] Z := by
  refine G_if_ne (pc := 938) (tgt := 1042) dL_shots_938 (by decide) (fun h => absurd h (by decide)) (fun _ => ?_)
  refine G_aload_n (pc := 941) dL_shots_941 rfl ?_
  refine G_iconst (pc := 942) (v := nI 0) dL_shots_942 (by first | rfl | decide) ?_
  refine R_V (pc := 943) (k' := (11096, 93065)) mok_X9_mend lk_L_23 (sh_k h.1) rfl rfl rfl rfl (aok0 rfl) dL_shots_943 (m_mend h (by decide) (t := 0) (by decide)) (by decide) (by decide +kernel) rfl (fun Y' q => ?_)
  obtain ⟨-, g', A', h'⟩ := q
  refine G_val (w := nI 4) (by decide +kernel) ?_
  exact kk _ _ _ (CI_frz h' (by decide +kernel) (by decide +kernel))
theorem sh_37 {Γ : GTy} (hG : GS Γ) {W : WTy} {Z : HS} {g : GN} {A : FT} (h : CI 27 Z (toF shN_22) g A) (kk : ∀ (Z' : HS) (g' : GN) (A' : FT), CI 28 Z' (toF shN_23) g' A' → G Γ M_L_shots (rm M_L_shots) W (11107, 93135) 967 [some (.ref 800000)] [.int (nI 4)] Z') : G Γ M_L_shots (rm M_L_shots) W (11096, 93065) 946 [some (.ref 800000)] [.int (nI 4)] Z := by
  refine G_iconst (pc := 946) (v := nI 4) dL_shots_946 (by first | rfl | decide) ?_
  refine G_icmp_ne (pc := 947) (tgt := 1042) dL_shots_947 (by decide) (fun h => absurd h (by decide)) (fun _ => ?_)
  refine G_aload_n (pc := 950) dL_shots_950 rfl ?_
  refine G_iconst (pc := 951) (v := nI 0) dL_shots_951 (by first | rfl | decide) ?_
  refine R_V (pc := 952) (k' := (11097, 93071)) mok_X9_state lk_L_77 (sh_k h.1) rfl rfl rfl rfl (aok0 rfl) dL_shots_952 (t_state h (f := 0) (fr_lt h (m := 4) (by decide +kernel) ⟨by decide, by decide⟩)) (by decide) u2_e rfl (fun Y' q => ?_)
  subst q
  refine G_val (w := nI 1) (by decide +kernel) ?_
  refine G_iconst (pc := 955) (v := nI 1) dL_shots_955 (by first | rfl | decide) ?_
  refine G_icmp_ne (pc := 956) (tgt := 1042) dL_shots_956 (by decide) (fun h => absurd h (by decide)) (fun _ => ?_)
  refine G_aload_n (pc := 959) dL_shots_959 rfl ?_
  refine G_iconst (pc := 960) (v := nI 0) dL_shots_960 (by first | rfl | decide) ?_
  refine G_iconst (pc := 961) (v := nI 0) dL_shots_961 (by first | rfl | decide) ?_
  refine G_iconst (pc := 962) (v := nI 3) dL_shots_962 (by first | rfl | decide) ?_
  refine G_iconst (pc := 963) (v := nI 1) dL_shots_963 (by first | rfl | decide) ?_
  refine R_V (pc := 964) (k' := (11107, 93135)) mok_X9_begin lk_L_29 (sh_k h.1) rfl rfl rfl rfl (by exact (fun _ => ⟨rfl, fun r hr => by rw [List.mem_singleton.mp (show r ∈ [800000] from hr), sh_k h.1]; decide, fun _ hr => nomatch hr⟩)) dL_shots_964 (k_begin hG h (by decide) (t := 0) (a := 0) (c := 3) (z := nI 1) (m := 4) (by decide) (by decide) (by decide) (Or.inr rfl) (by decide +kernel) (by decide)) (by decide) (by decide +kernel) rfl (fun Y' q => ?_)
  obtain ⟨-, g', A', h'⟩ := q
  refine G_val (w := nI 4) (by decide +kernel) ?_
  exact kk _ _ _ (CI_frz h' (by decide +kernel) (by decide +kernel))
theorem sh_38 {Γ : GTy} (hG : GS Γ) {W : WTy} {Z : HS} {g : GN} {A : FT} (h : CI 28 Z (toF shN_23) g A) (kk : ∀ (Z' : HS) (g' : GN) (A' : FT), CI 29 Z' (toF shN_24) g' A' → G Γ M_L_shots (rm M_L_shots) W (11111, 93159) 979 [some (.ref 800000)] [.int ((-4))] Z') : G Γ M_L_shots (rm M_L_shots) W (11107, 93135) 967 [some (.ref 800000)] [.int (nI 4)] Z := by
  refine G_iconst (pc := 967) (v := nI 4) dL_shots_967 (by first | rfl | decide) ?_
  refine G_icmp_ne (pc := 968) (tgt := 1042) dL_shots_968 (by decide) (fun h => absurd h (by decide)) (fun _ => ?_)
  refine G_aload_n (pc := 971) dL_shots_971 rfl ?_
  refine G_iconst (pc := 972) (v := nI 4) dL_shots_972 (by first | rfl | decide) ?_
  refine G_iconst (pc := 973) (v := nI 1) dL_shots_973 (by first | rfl | decide) ?_
  refine G_bipush (pc := 974) (v := nI 6) dL_shots_974 (by first | rfl | decide) ?_
  refine R_V (pc := 976) (k' := (11111, 93159)) mok_X9_shoot lk_L_36 (sh_k h.1) rfl rfl rfl rfl (aok0 rfl) dL_shots_976 (k_shoot hG h (by decide) (f := 4) (d := 1) (c := 0) (u := 0) (z := nI 6) (fr_lt h (m := 5) (by decide +kernel) ⟨by decide, by decide⟩) (by decide) ⟨by decide, by decide⟩ (by decide +kernel) (by decide) (by decide +kernel) (by decide +kernel) (by decide) (shW_0 (N := 28638903925142975635746120115453981346294017480852908296500471845590625205977889359136865384659683689970035391133283152717342370505831105148392811077813121281399417079033188658368452157153296628703825478212828318954404333734471845750400299082828480511) (w := nI 4) (by decide +kernel) (by decide +kernel) (by decide +kernel))) (by decide) (by decide +kernel) rfl (fun Y' q => ?_)
  obtain ⟨-, g', A', h'⟩ := q
  refine G_val (w := (-4)) (by decide +kernel) ?_
  exact kk _ _ _ (CI_frz h' (by decide +kernel) (by decide +kernel))
theorem sh_39 {Γ : GTy} (hG : GS Γ) {W : WTy} {Z : HS} {g : GN} {A : FT} (h : CI 29 Z (toF shN_24) g A) (kk : ∀ (Z' : HS) (g' : GN) (A' : FT), CI 29 Z' (toF shN_24) g' A' → G Γ M_L_shots (rm M_L_shots) W (11152, 93433) 1039 [some (.ref 800000)] [.int (nI 1)] Z') : G Γ M_L_shots (rm M_L_shots) W (11111, 93159) 979 [some (.ref 800000)] [.int ((-4))] Z := by
  refine G_bipush (pc := 979) (v := (-4)) dL_shots_979 (by first | rfl | decide) ?_
  refine G_icmp_ne (pc := 981) (tgt := 1042) dL_shots_981 (by decide) (fun h => absurd h (by decide)) (fun _ => ?_)
  refine G_aload_n (pc := 984) dL_shots_984 rfl ?_
  refine G_iconst (pc := 985) (v := nI 4) dL_shots_985 (by first | rfl | decide) ?_
  refine G_bipush (pc := 986) (v := nI 67) dL_shots_986 (by first | rfl | decide) ?_
  refine G_bipush (pc := 988) (v := nI 74) dL_shots_988 (by first | rfl | decide) ?_
  refine G_bipush (pc := 990) (v := nI 59) dL_shots_990 (by first | rfl | decide) ?_
  refine G_bipush (pc := 992) (v := nI 91) dL_shots_992 (by first | rfl | decide) ?_
  refine G_bipush (pc := 994) (v := nI 76) dL_shots_994 (by first | rfl | decide) ?_
  refine G_bipush (pc := 996) (v := nI 77) dL_shots_996 (by first | rfl | decide) ?_
  refine R_S (pc := 998) (k' := (11127, 93255)) (as := [.ref 800000, .int (nI 4), .int (nI 67), .int (nI 74), .int (nI 59), .int (nI 91), .int (nI 76), .int (nI 77)]) mok_L_bed lk_L_140 rfl rfl rfl (aok0 rfl) dL_shots_998 (C_bed h (fr_lt h (m := 5) (by decide +kernel) ⟨by decide, by decide⟩) (by decide +kernel) (by decide +kernel) (by decide +kernel) (by decide +kernel) (by decide +kernel) (by decide +kernel) (by decide +kernel) (by decide +kernel)) rfl (fun v Y' q => ?_)
  obtain ⟨rfl, rfl⟩ := q
  show G _ _ _ _ _ _ _ (_ :: _) _
  refine G_if_eq (pc := 1001) (tgt := 1042) dL_shots_1001 (by decide) (fun h => absurd h (by decide)) (fun _ => ?_)
  refine G_aload_n (pc := 1004) dL_shots_1004 rfl ?_
  refine G_iconst (pc := 1005) (v := nI 4) dL_shots_1005 (by first | rfl | decide) ?_
  refine G_iconst (pc := 1006) (v := nI 1) dL_shots_1006 (by first | rfl | decide) ?_
  refine G_iconst (pc := 1007) (v := nI 0) dL_shots_1007 (by first | rfl | decide) ?_
  refine G_iconst (pc := 1008) (v := nI 3) dL_shots_1008 (by first | rfl | decide) ?_
  refine G_iconst (pc := 1009) (v := nI 0) dL_shots_1009 (by first | rfl | decide) ?_
  refine G_iconst (pc := 1010) (v := nI 4) dL_shots_1010 (by first | rfl | decide) ?_
  refine R_S (pc := 1011) (k' := (11134, 93297)) (as := [.ref 800000, .int (nI 4), .int (nI 1), .int (nI 0), .int (nI 3), .int (nI 0), .int (nI 4)]) mok_L_frame lk_L_144 rfl rfl rfl (aok0 rfl) dL_shots_1011 (C_frame h (fr_lt h (m := 5) (by decide +kernel) ⟨by decide, by decide⟩) (by decide +kernel) (by decide +kernel) (by decide +kernel) (by decide +kernel) (by decide +kernel) (by decide +kernel) (by decide +kernel)) rfl (fun v Y' q => ?_)
  obtain ⟨rfl, rfl⟩ := q
  show G _ _ _ _ _ _ _ (_ :: _) _
  refine G_if_eq (pc := 1014) (tgt := 1042) dL_shots_1014 (by decide) (fun h => absurd h (by decide)) (fun _ => ?_)
  refine G_aload_n (pc := 1017) dL_shots_1017 rfl ?_
  refine G_bipush (pc := 1018) (v := nI 9) dL_shots_1018 (by first | rfl | decide) ?_
  refine G_iconst (pc := 1020) (v := nI 0) dL_shots_1020 (by first | rfl | decide) ?_
  refine G_iconst (pc := 1021) (v := nI 2) dL_shots_1021 (by first | rfl | decide) ?_
  refine G_iconst (pc := 1022) (v := nI 2) dL_shots_1022 (by first | rfl | decide) ?_
  refine K_SW5 (pc := 1023) (k' := (11146, 93397)) mok_L_act lk_L_122 rfl (by exact (fun _ => ⟨rfl, fun r hr => by rw [List.mem_singleton.mp (show r ∈ [800000] from hr), sh_k h.1]; decide, fun _ hr => nomatch hr⟩)) dL_shots_1023 (ar_shootV h (f := 0) (d := 2) (z := nI 2) (fr_lt h (m := 5) (by decide +kernel) ⟨by decide, by decide⟩) (by decide) ⟨by decide, by decide⟩ (by decide +kernel)) rfl (fun v Y' q => ?_) (fun E Y' q => q.elim)
  obtain ⟨rfl, rfl⟩ := q
  show G _ _ _ _ _ _ _ (_ :: _) _
  refine G_bipush (pc := 1026) (v := (-73)) dL_shots_1026 (by first | rfl | decide) ?_
  refine G_icmp_ne (pc := 1028) (tgt := 1042) dL_shots_1028 (by decide) (fun h => absurd h (by decide)) (fun _ => ?_)
  refine G_aload_n (pc := 1031) dL_shots_1031 rfl ?_
  refine G_iconst (pc := 1032) (v := nI 0) dL_shots_1032 (by first | rfl | decide) ?_
  refine G_iconst (pc := 1033) (v := nI 2) dL_shots_1033 (by first | rfl | decide) ?_
  refine G_iconst (pc := 1034) (v := nI 1) dL_shots_1034 (by first | rfl | decide) ?_
  refine G_iconst (pc := 1035) (v := nI 1) dL_shots_1035 (by first | rfl | decide) ?_
  refine R_S (pc := 1036) (k' := (11152, 93433)) (as := [.ref 800000, .int (nI 0), .int (nI 2), .int (nI 1), .int (nI 1)]) mok_L_meets lk_L_148 rfl rfl rfl (aok0 rfl) dL_shots_1036 (k_meets hG h (N := 6668014437537408550981978596168196262532265988086566211746347645181193351895784929580562859864189517228869344444896432537282021272634123560696727147235784757785863645407086409593826250756923144757154488788783872104019359385796180781683441755) (fr_lt h (m := 5) (by decide +kernel) ⟨by decide, by decide⟩) (by decide) ⟨by decide, by decide⟩ (by decide +kernel) (by decide +kernel)) rfl (fun v Y' q => ?_)
  obtain ⟨rfl, q2⟩ := q
  show G _ _ _ _ _ _ _ (_ :: _) _
  exact kk _ _ _ q2
theorem sh_40 {Γ : GTy} (hG : GS Γ) {W : WTy} {Z : HS} {g : GN} {A : FT} (h : CI 29 Z (toF shN_24) g A) (kk : ∀ (Z' : HS) (g' : GN) (A' : FT), CI 30 Z' (toF shN_25) g' A' → G Γ M_L_shots (rm M_L_shots) W (11154, 93445) 1049 [some (.ref 800000)] [.int (nI 0)] Z') : G Γ M_L_shots (rm M_L_shots) W (11152, 93433) 1039 [some (.ref 800000)] [.int (nI 1)] Z := by
  refine G_if_ne (pc := 1039) (tgt := 1044) dL_shots_1039 (by decide) (fun _ => ?_) (fun h => absurd h (by decide))
  refine G_aload_n (pc := 1044) dL_shots_1044 rfl ?_
  refine G_iconst (pc := 1045) (v := nI 1) dL_shots_1045 (by first | rfl | decide) ?_
  refine R_V (pc := 1046) (k' := (11154, 93445)) mok_X9_tear lk_L_20 (sh_k h.1) rfl rfl rfl rfl (aok0 rfl) dL_shots_1046 (k_tear h (by decide) (t := 1) (r := 0) (k := 2) (by decide) (by decide +kernel) (by decide +kernel) ⟨by decide, by decide⟩) (by decide) (by decide +kernel) rfl (fun Y' q => ?_)
  obtain ⟨-, g', A', h'⟩ := q
  refine G_val (w := nI 0) (by decide +kernel) ?_
  exact kk _ _ _ (CI_frz h' (by decide +kernel) (by decide +kernel))
theorem sh_41 {Γ : GTy} (hG : GS Γ) {W : WTy} {Z : HS} {g : GN} {A : FT} (h : CI 30 Z (toF shN_25) g A) (kk : ∀ (Z' : HS) (g' : GN) (A' : FT), CI 31 Z' (toF shN_25) g' A' → G Γ M_L_shots (rm M_L_shots) W (11166, 93545) 1061 [some (.ref 800000)] [.int ((-73))] Z') : G Γ M_L_shots (rm M_L_shots) W (11154, 93445) 1049 [some (.ref 800000)] [.int (nI 0)] Z := by
  refine G_if_ne (pc := 1049) (tgt := 1122) dL_shots_1049 (by decide) (fun h => absurd h (by decide)) (fun _ => ?_)
  refine G_aload_n (pc := 1052) dL_shots_1052 rfl ?_
  refine G_bipush (pc := 1053) (v := nI 8) dL_shots_1053 (by first | rfl | decide) ?_
  refine G_iconst (pc := 1055) (v := nI 0) dL_shots_1055 (by first | rfl | decide) ?_
  refine G_iconst (pc := 1056) (v := nI 1) dL_shots_1056 (by first | rfl | decide) ?_
  refine G_iconst (pc := 1057) (v := nI 0) dL_shots_1057 (by first | rfl | decide) ?_
  refine K_SW5 (pc := 1058) (k' := (11166, 93545)) mok_L_act lk_L_122 rfl (by exact (fun _ => ⟨rfl, fun r hr => by rw [List.mem_singleton.mp (show r ∈ [800000] from hr), sh_k h.1]; decide, fun _ hr => nomatch hr⟩)) dL_shots_1058 (act_8 (QV' := QA 30 _ _ ((-73))) (x := nI 0) (y := nI 1) (z := nI 0) h.1 (k_resume h (by decide) (f := 0) (t := 1) (a := 1) (b := 2) (u := 1) (fr_lt h (m := 5) (by decide +kernel) ⟨by decide, by decide⟩) (by decide) (by decide +kernel) (by decide +kernel) (by decide +kernel) ⟨by decide, by decide, by decide⟩) es_3 (fun Z' q _ => absurd q (by decide +kernel)) (fun i E Z' q1 q2 q3 => ⟨one_x (i0 := 1) (by decide) (by decide +kernel) rfl q1 q2 xc_IS, q3⟩)) rfl (fun v Y' q => ?_) (fun E Y' q => q.elim)
  obtain ⟨rfl, -, g', A', h'⟩ := q
  show G _ _ _ _ _ _ _ (_ :: _) _
  exact kk _ _ _ (CI_frz h' (by decide +kernel) (by decide +kernel))
theorem sh_42 {Γ : GTy} (hG : GS Γ) {W : WTy} {Z : HS} {g : GN} {A : FT} (h : CI 31 Z (toF shN_25) g A) (kk : ∀ (Z' : HS) (g' : GN) (A' : FT), CI 32 Z' (toF shN_26) g' A' → G Γ M_L_shots (rm M_L_shots) W (11168, 93557) 1071 [some (.ref 800000)] [.int (nI 4)] Z') : G Γ M_L_shots (rm M_L_shots) W (11166, 93545) 1061 [some (.ref 800000)] [.int ((-73))] Z := by
  refine G_bipush (pc := 1061) (v := (-73)) dL_shots_1061 (by first | rfl | decide) ?_
  refine G_icmp_ne (pc := 1063) (tgt := 1122) dL_shots_1063 (by decide) (fun h => absurd h (by decide)) (fun _ => ?_)
  refine G_aload_n (pc := 1066) dL_shots_1066 rfl ?_
  refine G_iconst (pc := 1067) (v := nI 1) dL_shots_1067 (by first | rfl | decide) ?_
  refine R_V (pc := 1068) (k' := (11168, 93557)) mok_X9_mend lk_L_23 (sh_k h.1) rfl rfl rfl rfl (aok0 rfl) dL_shots_1068 (m_mend h (by decide) (t := 1) (by decide)) (by decide) (by decide +kernel) rfl (fun Y' q => ?_)
  obtain ⟨-, g', A', h'⟩ := q
  refine G_val (w := nI 4) (by decide +kernel) ?_
  exact kk _ _ _ (CI_frz h' (by decide +kernel) (by decide +kernel))
theorem sh_43 {Γ : GTy} (hG : GS Γ) {W : WTy} {Z : HS} {g : GN} {A : FT} (h : CI 32 Z (toF shN_26) g A) (kk : ∀ (Z' : HS) (g' : GN) (A' : FT), CI 33 Z' (toF shN_27) g' A' → G Γ M_L_shots (rm M_L_shots) W (11174, 93590) 1081 [some (.ref 800000)] [.int (nI 2)] Z') : G Γ M_L_shots (rm M_L_shots) W (11168, 93557) 1071 [some (.ref 800000)] [.int (nI 4)] Z := by
  refine G_iconst (pc := 1071) (v := nI 4) dL_shots_1071 (by first | rfl | decide) ?_
  refine G_icmp_ne (pc := 1072) (tgt := 1122) dL_shots_1072 (by decide) (fun h => absurd h (by decide)) (fun _ => ?_)
  refine G_aload_n (pc := 1075) dL_shots_1075 rfl ?_
  refine G_iconst (pc := 1076) (v := nI 0) dL_shots_1076 (by first | rfl | decide) ?_
  refine G_iconst (pc := 1077) (v := nI 1) dL_shots_1077 (by first | rfl | decide) ?_
  refine R_V (pc := 1078) (k' := (11174, 93590)) mok_X9_resume lk_L_33 (sh_k h.1) rfl rfl rfl rfl (by exact (fun _ => ⟨rfl, fun r hr => by rw [List.mem_singleton.mp (show r ∈ [800000] from hr), sh_k h.1]; decide, fun _ hr => nomatch hr⟩)) dL_shots_1078 (k_resume h (by decide) (f := 0) (t := 1) (a := 1) (b := 2) (u := 1) (fr_lt h (m := 5) (by decide +kernel) ⟨by decide, by decide⟩) (by decide) (by decide +kernel) (by decide +kernel) (by decide +kernel) ⟨by decide, by decide, by decide⟩) (by decide) (by decide +kernel) rfl (fun Y' q => ?_)
  obtain ⟨-, g', A', h'⟩ := q
  refine G_val (w := nI 2) (by decide +kernel) ?_
  exact kk _ _ _ (CI_frz h' (by decide +kernel) (by decide +kernel))
