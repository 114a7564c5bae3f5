-- ===== tables: stretches 120 to 147 =====
theorem tq_120 {Γ : GTy} (hG : GS Γ) {W : WTy} {Z : HS} {g : GN} {A : FT} (h : CI 120 Z (toF tqN_104) g A) (kk : ∀ (Z' : HS) (g' : GN) (A' : FT), CI 121 Z' (toF tqN_105) g' A' → G Γ M_L_tables (rm M_L_tables) W (16629, 139317) 924 [some (.ref 800000), some (.int ((-73))), some (.int (nI 21))] [.int (nI 0)] Z') : G Γ M_L_tables (rm M_L_tables) W (16627, 139305) 924 [some (.ref 800000), some (.int ((-73))), some (.int (nI 20))] [.int (nI 0)] Z := by
  refine G_if_eq (pc := 924) (tgt := 929) dL_tables_924 (by decide) (fun _ => ?_) (fun h => absurd h (by decide))
  refine G_iincN (pc := 929) dL_tables_929 rfl (by decide) ?_
  show G _ _ _ _ _ _ [some (.ref 800000), some (.int ((-73))), some (.int (nI 21))] [] _
  refine G_goto (pc := 932) (tgt := 911) dL_tables_932 (by decide) ?_
  refine G_iload_n (pc := 911) dL_tables_911 rfl ?_
  refine G_bipush (pc := 912) (v := nI 48) dL_tables_912 (by first | rfl | decide) ?_
  refine G_icmp_ge (pc := 914) (tgt := 935) dL_tables_914 (by decide) (fun h => absurd h (by decide)) (fun _ => ?_)
  refine G_aload_n (pc := 917) dL_tables_917 rfl ?_
  refine G_sipush (pc := 918) (v := nI 200) dL_tables_918 (by first | rfl | decide) ?_
  refine R_V (pc := 921) (k' := (16629, 139317)) mok_X9_pass lk_L_26 (sh_k h.1) rfl rfl rfl rfl (aok0 rfl) dL_tables_921 (k_pass h (by decide) (m := 200) (t := 4433) (by decide +kernel) ⟨by decide, by decide, by decide⟩) (by decide) (by decide +kernel) rfl (fun Y' q => ?_)
  obtain ⟨-, g', A', h'⟩ := q
  refine G_val (w := nI 0) (by decide +kernel) ?_
  exact kk _ _ _ (CI_frz h' (by decide +kernel) (by decide +kernel))
theorem tq_121 {Γ : GTy} (hG : GS Γ) {W : WTy} {Z : HS} {g : GN} {A : FT} (h : CI 121 Z (toF tqN_105) g A) (kk : ∀ (Z' : HS) (g' : GN) (A' : FT), CI 122 Z' (toF tqN_106) g' A' → G Γ M_L_tables (rm M_L_tables) W (16631, 139329) 924 [some (.ref 800000), some (.int ((-73))), some (.int (nI 22))] [.int (nI 0)] Z') : G Γ M_L_tables (rm M_L_tables) W (16629, 139317) 924 [some (.ref 800000), some (.int ((-73))), some (.int (nI 21))] [.int (nI 0)] Z := by
  refine G_if_eq (pc := 924) (tgt := 929) dL_tables_924 (by decide) (fun _ => ?_) (fun h => absurd h (by decide))
  refine G_iincN (pc := 929) dL_tables_929 rfl (by decide) ?_
  show G _ _ _ _ _ _ [some (.ref 800000), some (.int ((-73))), some (.int (nI 22))] [] _
  refine G_goto (pc := 932) (tgt := 911) dL_tables_932 (by decide) ?_
  refine G_iload_n (pc := 911) dL_tables_911 rfl ?_
  refine G_bipush (pc := 912) (v := nI 48) dL_tables_912 (by first | rfl | decide) ?_
  refine G_icmp_ge (pc := 914) (tgt := 935) dL_tables_914 (by decide) (fun h => absurd h (by decide)) (fun _ => ?_)
  refine G_aload_n (pc := 917) dL_tables_917 rfl ?_
  refine G_sipush (pc := 918) (v := nI 200) dL_tables_918 (by first | rfl | decide) ?_
  refine R_V (pc := 921) (k' := (16631, 139329)) mok_X9_pass lk_L_26 (sh_k h.1) rfl rfl rfl rfl (aok0 rfl) dL_tables_921 (k_pass h (by decide) (m := 200) (t := 4633) (by decide +kernel) ⟨by decide, by decide, by decide⟩) (by decide) (by decide +kernel) rfl (fun Y' q => ?_)
  obtain ⟨-, g', A', h'⟩ := q
  refine G_val (w := nI 0) (by decide +kernel) ?_
  exact kk _ _ _ (CI_frz h' (by decide +kernel) (by decide +kernel))
theorem tq_122 {Γ : GTy} (hG : GS Γ) {W : WTy} {Z : HS} {g : GN} {A : FT} (h : CI 122 Z (toF tqN_106) g A) (kk : ∀ (Z' : HS) (g' : GN) (A' : FT), CI 123 Z' (toF tqN_107) g' A' → G Γ M_L_tables (rm M_L_tables) W (16633, 139341) 924 [some (.ref 800000), some (.int ((-73))), some (.int (nI 23))] [.int (nI 0)] Z') : G Γ M_L_tables (rm M_L_tables) W (16631, 139329) 924 [some (.ref 800000), some (.int ((-73))), some (.int (nI 22))] [.int (nI 0)] Z := by
  refine G_if_eq (pc := 924) (tgt := 929) dL_tables_924 (by decide) (fun _ => ?_) (fun h => absurd h (by decide))
  refine G_iincN (pc := 929) dL_tables_929 rfl (by decide) ?_
  show G _ _ _ _ _ _ [some (.ref 800000), some (.int ((-73))), some (.int (nI 23))] [] _
  refine G_goto (pc := 932) (tgt := 911) dL_tables_932 (by decide) ?_
  refine G_iload_n (pc := 911) dL_tables_911 rfl ?_
  refine G_bipush (pc := 912) (v := nI 48) dL_tables_912 (by first | rfl | decide) ?_
  refine G_icmp_ge (pc := 914) (tgt := 935) dL_tables_914 (by decide) (fun h => absurd h (by decide)) (fun _ => ?_)
  refine G_aload_n (pc := 917) dL_tables_917 rfl ?_
  refine G_sipush (pc := 918) (v := nI 200) dL_tables_918 (by first | rfl | decide) ?_
  refine R_V (pc := 921) (k' := (16633, 139341)) mok_X9_pass lk_L_26 (sh_k h.1) rfl rfl rfl rfl (aok0 rfl) dL_tables_921 (k_pass h (by decide) (m := 200) (t := 4833) (by decide +kernel) ⟨by decide, by decide, by decide⟩) (by decide) (by decide +kernel) rfl (fun Y' q => ?_)
  obtain ⟨-, g', A', h'⟩ := q
  refine G_val (w := nI 0) (by decide +kernel) ?_
  exact kk _ _ _ (CI_frz h' (by decide +kernel) (by decide +kernel))
theorem tq_123 {Γ : GTy} (hG : GS Γ) {W : WTy} {Z : HS} {g : GN} {A : FT} (h : CI 123 Z (toF tqN_107) g A) (kk : ∀ (Z' : HS) (g' : GN) (A' : FT), CI 124 Z' (toF tqN_108) g' A' → G Γ M_L_tables (rm M_L_tables) W (16635, 139353) 924 [some (.ref 800000), some (.int ((-73))), some (.int (nI 24))] [.int (nI 0)] Z') : G Γ M_L_tables (rm M_L_tables) W (16633, 139341) 924 [some (.ref 800000), some (.int ((-73))), some (.int (nI 23))] [.int (nI 0)] Z := by
  refine G_if_eq (pc := 924) (tgt := 929) dL_tables_924 (by decide) (fun _ => ?_) (fun h => absurd h (by decide))
  refine G_iincN (pc := 929) dL_tables_929 rfl (by decide) ?_
  show G _ _ _ _ _ _ [some (.ref 800000), some (.int ((-73))), some (.int (nI 24))] [] _
  refine G_goto (pc := 932) (tgt := 911) dL_tables_932 (by decide) ?_
  refine G_iload_n (pc := 911) dL_tables_911 rfl ?_
  refine G_bipush (pc := 912) (v := nI 48) dL_tables_912 (by first | rfl | decide) ?_
  refine G_icmp_ge (pc := 914) (tgt := 935) dL_tables_914 (by decide) (fun h => absurd h (by decide)) (fun _ => ?_)
  refine G_aload_n (pc := 917) dL_tables_917 rfl ?_
  refine G_sipush (pc := 918) (v := nI 200) dL_tables_918 (by first | rfl | decide) ?_
  refine R_V (pc := 921) (k' := (16635, 139353)) mok_X9_pass lk_L_26 (sh_k h.1) rfl rfl rfl rfl (aok0 rfl) dL_tables_921 (k_pass h (by decide) (m := 200) (t := 5033) (by decide +kernel) ⟨by decide, by decide, by decide⟩) (by decide) (by decide +kernel) rfl (fun Y' q => ?_)
  obtain ⟨-, g', A', h'⟩ := q
  refine G_val (w := nI 0) (by decide +kernel) ?_
  exact kk _ _ _ (CI_frz h' (by decide +kernel) (by decide +kernel))
theorem tq_124 {Γ : GTy} (hG : GS Γ) {W : WTy} {Z : HS} {g : GN} {A : FT} (h : CI 124 Z (toF tqN_108) g A) (kk : ∀ (Z' : HS) (g' : GN) (A' : FT), CI 125 Z' (toF tqN_109) g' A' → G Γ M_L_tables (rm M_L_tables) W (16637, 139365) 924 [some (.ref 800000), some (.int ((-73))), some (.int (nI 25))] [.int (nI 0)] Z') : G Γ M_L_tables (rm M_L_tables) W (16635, 139353) 924 [some (.ref 800000), some (.int ((-73))), some (.int (nI 24))] [.int (nI 0)] Z := by
  refine G_if_eq (pc := 924) (tgt := 929) dL_tables_924 (by decide) (fun _ => ?_) (fun h => absurd h (by decide))
  refine G_iincN (pc := 929) dL_tables_929 rfl (by decide) ?_
  show G _ _ _ _ _ _ [some (.ref 800000), some (.int ((-73))), some (.int (nI 25))] [] _
  refine G_goto (pc := 932) (tgt := 911) dL_tables_932 (by decide) ?_
  refine G_iload_n (pc := 911) dL_tables_911 rfl ?_
  refine G_bipush (pc := 912) (v := nI 48) dL_tables_912 (by first | rfl | decide) ?_
  refine G_icmp_ge (pc := 914) (tgt := 935) dL_tables_914 (by decide) (fun h => absurd h (by decide)) (fun _ => ?_)
  refine G_aload_n (pc := 917) dL_tables_917 rfl ?_
  refine G_sipush (pc := 918) (v := nI 200) dL_tables_918 (by first | rfl | decide) ?_
  refine R_V (pc := 921) (k' := (16637, 139365)) mok_X9_pass lk_L_26 (sh_k h.1) rfl rfl rfl rfl (aok0 rfl) dL_tables_921 (k_pass h (by decide) (m := 200) (t := 5233) (by decide +kernel) ⟨by decide, by decide, by decide⟩) (by decide) (by decide +kernel) rfl (fun Y' q => ?_)
  obtain ⟨-, g', A', h'⟩ := q
  refine G_val (w := nI 0) (by decide +kernel) ?_
  exact kk _ _ _ (CI_frz h' (by decide +kernel) (by decide +kernel))
theorem tq_125 {Γ : GTy} (hG : GS Γ) {W : WTy} {Z : HS} {g : GN} {A : FT} (h : CI 125 Z (toF tqN_109) g A) (kk : ∀ (Z' : HS) (g' : GN) (A' : FT), CI 126 Z' (toF tqN_110) g' A' → G Γ M_L_tables (rm M_L_tables) W (16639, 139377) 924 [some (.ref 800000), some (.int ((-73))), some (.int (nI 26))] [.int (nI 0)] Z') : G Γ M_L_tables (rm M_L_tables) W (16637, 139365) 924 [some (.ref 800000), some (.int ((-73))), some (.int (nI 25))] [.int (nI 0)] Z := by
  refine G_if_eq (pc := 924) (tgt := 929) dL_tables_924 (by decide) (fun _ => ?_) (fun h => absurd h (by decide))
  refine G_iincN (pc := 929) dL_tables_929 rfl (by decide) ?_
  show G _ _ _ _ _ _ [some (.ref 800000), some (.int ((-73))), some (.int (nI 26))] [] _
  refine G_goto (pc := 932) (tgt := 911) dL_tables_932 (by decide) ?_
  refine G_iload_n (pc := 911) dL_tables_911 rfl ?_
  refine G_bipush (pc := 912) (v := nI 48) dL_tables_912 (by first | rfl | decide) ?_
  refine G_icmp_ge (pc := 914) (tgt := 935) dL_tables_914 (by decide) (fun h => absurd h (by decide)) (fun _ => ?_)
  refine G_aload_n (pc := 917) dL_tables_917 rfl ?_
  refine G_sipush (pc := 918) (v := nI 200) dL_tables_918 (by first | rfl | decide) ?_
  refine R_V (pc := 921) (k' := (16639, 139377)) mok_X9_pass lk_L_26 (sh_k h.1) rfl rfl rfl rfl (aok0 rfl) dL_tables_921 (k_pass h (by decide) (m := 200) (t := 5433) (by decide +kernel) ⟨by decide, by decide, by decide⟩) (by decide) (by decide +kernel) rfl (fun Y' q => ?_)
  obtain ⟨-, g', A', h'⟩ := q
  refine G_val (w := nI 0) (by decide +kernel) ?_
  exact kk _ _ _ (CI_frz h' (by decide +kernel) (by decide +kernel))
theorem tq_126 {Γ : GTy} (hG : GS Γ) {W : WTy} {Z : HS} {g : GN} {A : FT} (h : CI 126 Z (toF tqN_110) g A) (kk : ∀ (Z' : HS) (g' : GN) (A' : FT), CI 127 Z' (toF tqN_111) g' A' → G Γ M_L_tables (rm M_L_tables) W (16641, 139389) 924 [some (.ref 800000), some (.int ((-73))), some (.int (nI 27))] [.int (nI 0)] Z') : G Γ M_L_tables (rm M_L_tables) W (16639, 139377) 924 [some (.ref 800000), some (.int ((-73))), some (.int (nI 26))] [.int (nI 0)] Z := by
  refine G_if_eq (pc := 924) (tgt := 929) dL_tables_924 (by decide) (fun _ => ?_) (fun h => absurd h (by decide))
  refine G_iincN (pc := 929) dL_tables_929 rfl (by decide) ?_
  show G _ _ _ _ _ _ [some (.ref 800000), some (.int ((-73))), some (.int (nI 27))] [] _
  refine G_goto (pc := 932) (tgt := 911) dL_tables_932 (by decide) ?_
  refine G_iload_n (pc := 911) dL_tables_911 rfl ?_
  refine G_bipush (pc := 912) (v := nI 48) dL_tables_912 (by first | rfl | decide) ?_
  refine G_icmp_ge (pc := 914) (tgt := 935) dL_tables_914 (by decide) (fun h => absurd h (by decide)) (fun _ => ?_)
  refine G_aload_n (pc := 917) dL_tables_917 rfl ?_
  refine G_sipush (pc := 918) (v := nI 200) dL_tables_918 (by first | rfl | decide) ?_
  refine R_V (pc := 921) (k' := (16641, 139389)) mok_X9_pass lk_L_26 (sh_k h.1) rfl rfl rfl rfl (aok0 rfl) dL_tables_921 (k_pass h (by decide) (m := 200) (t := 5633) (by decide +kernel) ⟨by decide, by decide, by decide⟩) (by decide) (by decide +kernel) rfl (fun Y' q => ?_)
  obtain ⟨-, g', A', h'⟩ := q
  refine G_val (w := nI 0) (by decide +kernel) ?_
  exact kk _ _ _ (CI_frz h' (by decide +kernel) (by decide +kernel))
theorem tq_127 {Γ : GTy} (hG : GS Γ) {W : WTy} {Z : HS} {g : GN} {A : FT} (h : CI 127 Z (toF tqN_111) g A) (kk : ∀ (Z' : HS) (g' : GN) (A' : FT), CI 128 Z' (toF tqN_112) g' A' → G Γ M_L_tables (rm M_L_tables) W (16643, 139401) 924 [some (.ref 800000), some (.int ((-73))), some (.int (nI 28))] [.int (nI 0)] Z') : G Γ M_L_tables (rm M_L_tables) W (16641, 139389) 924 [some (.ref 800000), some (.int ((-73))), some (.int (nI 27))] [.int (nI 0)] Z := by
  refine G_if_eq (pc := 924) (tgt := 929) dL_tables_924 (by decide) (fun _ => ?_) (fun h => absurd h (by decide))
  refine G_iincN (pc := 929) dL_tables_929 rfl (by decide) ?_
  show G _ _ _ _ _ _ [some (.ref 800000), some (.int ((-73))), some (.int (nI 28))] [] _
  refine G_goto (pc := 932) (tgt := 911) dL_tables_932 (by decide) ?_
  refine G_iload_n (pc := 911) dL_tables_911 rfl ?_
  refine G_bipush (pc := 912) (v := nI 48) dL_tables_912 (by first | rfl | decide) ?_
  refine G_icmp_ge (pc := 914) (tgt := 935) dL_tables_914 (by decide) (fun h => absurd h (by decide)) (fun _ => ?_)
  refine G_aload_n (pc := 917) dL_tables_917 rfl ?_
  refine G_sipush (pc := 918) (v := nI 200) dL_tables_918 (by first | rfl | decide) ?_
  refine R_V (pc := 921) (k' := (16643, 139401)) mok_X9_pass lk_L_26 (sh_k h.1) rfl rfl rfl rfl (aok0 rfl) dL_tables_921 (k_pass h (by decide) (m := 200) (t := 5833) (by decide +kernel) ⟨by decide, by decide, by decide⟩) (by decide) (by decide +kernel) rfl (fun Y' q => ?_)
  obtain ⟨-, g', A', h'⟩ := q
  refine G_val (w := nI 0) (by decide +kernel) ?_
  exact kk _ _ _ (CI_frz h' (by decide +kernel) (by decide +kernel))
theorem tq_128 {Γ : GTy} (hG : GS Γ) {W : WTy} {Z : HS} {g : GN} {A : FT} (h : CI 128 Z (toF tqN_112) g A) (kk : ∀ (Z' : HS) (g' : GN) (A' : FT), CI 129 Z' (toF tqN_113) g' A' → G Γ M_L_tables (rm M_L_tables) W (16645, 139413) 924 [some (.ref 800000), some (.int ((-73))), some (.int (nI 29))] [.int (nI 0)] Z') : G Γ M_L_tables (rm M_L_tables) W (16643, 139401) 924 [some (.ref 800000), some (.int ((-73))), some (.int (nI 28))] [.int (nI 0)] Z := by
  refine G_if_eq (pc := 924) (tgt := 929) dL_tables_924 (by decide) (fun _ => ?_) (fun h => absurd h (by decide))
  refine G_iincN (pc := 929) dL_tables_929 rfl (by decide) ?_
  show G _ _ _ _ _ _ [some (.ref 800000), some (.int ((-73))), some (.int (nI 29))] [] _
  refine G_goto (pc := 932) (tgt := 911) dL_tables_932 (by decide) ?_
  refine G_iload_n (pc := 911) dL_tables_911 rfl ?_
  refine G_bipush (pc := 912) (v := nI 48) dL_tables_912 (by first | rfl | decide) ?_
  refine G_icmp_ge (pc := 914) (tgt := 935) dL_tables_914 (by decide) (fun h => absurd h (by decide)) (fun _ => ?_)
  refine G_aload_n (pc := 917) dL_tables_917 rfl ?_
  refine G_sipush (pc := 918) (v := nI 200) dL_tables_918 (by first | rfl | decide) ?_
  refine R_V (pc := 921) (k' := (16645, 139413)) mok_X9_pass lk_L_26 (sh_k h.1) rfl rfl rfl rfl (aok0 rfl) dL_tables_921 (k_pass h (by decide) (m := 200) (t := 6033) (by decide +kernel) ⟨by decide, by decide, by decide⟩) (by decide) (by decide +kernel) rfl (fun Y' q => ?_)
  obtain ⟨-, g', A', h'⟩ := q
  refine G_val (w := nI 0) (by decide +kernel) ?_
  exact kk _ _ _ (CI_frz h' (by decide +kernel) (by decide +kernel))
theorem tq_129 {Γ : GTy} (hG : GS Γ) {W : WTy} {Z : HS} {g : GN} {A : FT} (h : CI 129 Z (toF tqN_113) g A) (kk : ∀ (Z' : HS) (g' : GN) (A' : FT), CI 130 Z' (toF tqN_114) g' A' → G Γ M_L_tables (rm M_L_tables) W (16647, 139425) 924 [some (.ref 800000), some (.int ((-73))), some (.int (nI 30))] [.int (nI 0)] Z') : G Γ M_L_tables (rm M_L_tables) W (16645, 139413) 924 [some (.ref 800000), some (.int ((-73))), some (.int (nI 29))] [.int (nI 0)] Z := by
  refine G_if_eq (pc := 924) (tgt := 929) dL_tables_924 (by decide) (fun _ => ?_) (fun h => absurd h (by decide))
  refine G_iincN (pc := 929) dL_tables_929 rfl (by decide) ?_
  show G _ _ _ _ _ _ [some (.ref 800000), some (.int ((-73))), some (.int (nI 30))] [] _
  refine G_goto (pc := 932) (tgt := 911) dL_tables_932 (by decide) ?_
  refine G_iload_n (pc := 911) dL_tables_911 rfl ?_
  refine G_bipush (pc := 912) (v := nI 48) dL_tables_912 (by first | rfl | decide) ?_
  refine G_icmp_ge (pc := 914) (tgt := 935) dL_tables_914 (by decide) (fun h => absurd h (by decide)) (fun _ => ?_)
  refine G_aload_n (pc := 917) dL_tables_917 rfl ?_
  refine G_sipush (pc := 918) (v := nI 200) dL_tables_918 (by first | rfl | decide) ?_
  refine R_V (pc := 921) (k' := (16647, 139425)) mok_X9_pass lk_L_26 (sh_k h.1) rfl rfl rfl rfl (aok0 rfl) dL_tables_921 (k_pass h (by decide) (m := 200) (t := 6233) (by decide +kernel) ⟨by decide, by decide, by decide⟩) (by decide) (by decide +kernel) rfl (fun Y' q => ?_)
  obtain ⟨-, g', A', h'⟩ := q
  refine G_val (w := nI 0) (by decide +kernel) ?_
  exact kk _ _ _ (CI_frz h' (by decide +kernel) (by decide +kernel))
theorem tq_130 {Γ : GTy} (hG : GS Γ) {W : WTy} {Z : HS} {g : GN} {A : FT} (h : CI 130 Z (toF tqN_114) g A) (kk : ∀ (Z' : HS) (g' : GN) (A' : FT), CI 131 Z' (toF tqN_115) g' A' → G Γ M_L_tables (rm M_L_tables) W (16649, 139437) 924 [some (.ref 800000), some (.int ((-73))), some (.int (nI 31))] [.int (nI 0)] Z') : G Γ M_L_tables (rm M_L_tables) W (16647, 139425) 924 [some (.ref 800000), some (.int ((-73))), some (.int (nI 30))] [.int (nI 0)] Z := by
  refine G_if_eq (pc := 924) (tgt := 929) dL_tables_924 (by decide) (fun _ => ?_) (fun h => absurd h (by decide))
  refine G_iincN (pc := 929) dL_tables_929 rfl (by decide) ?_
  show G _ _ _ _ _ _ [some (.ref 800000), some (.int ((-73))), some (.int (nI 31))] [] _
  refine G_goto (pc := 932) (tgt := 911) dL_tables_932 (by decide) ?_
  refine G_iload_n (pc := 911) dL_tables_911 rfl ?_
  refine G_bipush (pc := 912) (v := nI 48) dL_tables_912 (by first | rfl | decide) ?_
  refine G_icmp_ge (pc := 914) (tgt := 935) dL_tables_914 (by decide) (fun h => absurd h (by decide)) (fun _ => ?_)
  refine G_aload_n (pc := 917) dL_tables_917 rfl ?_
  refine G_sipush (pc := 918) (v := nI 200) dL_tables_918 (by first | rfl | decide) ?_
  refine R_V (pc := 921) (k' := (16649, 139437)) mok_X9_pass lk_L_26 (sh_k h.1) rfl rfl rfl rfl (aok0 rfl) dL_tables_921 (k_pass h (by decide) (m := 200) (t := 6433) (by decide +kernel) ⟨by decide, by decide, by decide⟩) (by decide) (by decide +kernel) rfl (fun Y' q => ?_)
  obtain ⟨-, g', A', h'⟩ := q
  refine G_val (w := nI 0) (by decide +kernel) ?_
  exact kk _ _ _ (CI_frz h' (by decide +kernel) (by decide +kernel))
theorem tq_131 {Γ : GTy} (hG : GS Γ) {W : WTy} {Z : HS} {g : GN} {A : FT} (h : CI 131 Z (toF tqN_115) g A) (kk : ∀ (Z' : HS) (g' : GN) (A' : FT), CI 132 Z' (toF tqN_116) g' A' → G Γ M_L_tables (rm M_L_tables) W (16651, 139449) 924 [some (.ref 800000), some (.int ((-73))), some (.int (nI 32))] [.int (nI 0)] Z') : G Γ M_L_tables (rm M_L_tables) W (16649, 139437) 924 [some (.ref 800000), some (.int ((-73))), some (.int (nI 31))] [.int (nI 0)] Z := by
  refine G_if_eq (pc := 924) (tgt := 929) dL_tables_924 (by decide) (fun _ => ?_) (fun h => absurd h (by decide))
  refine G_iincN (pc := 929) dL_tables_929 rfl (by decide) ?_
  show G _ _ _ _ _ _ [some (.ref 800000), some (.int ((-73))), some (.int (nI 32))] [] _
  refine G_goto (pc := 932) (tgt := 911) dL_tables_932 (by decide) ?_
  refine G_iload_n (pc := 911) dL_tables_911 rfl ?_
  refine G_bipush (pc := 912) (v := nI 48) dL_tables_912 (by first | rfl | decide) ?_
  refine G_icmp_ge (pc := 914) (tgt := 935) dL_tables_914 (by decide) (fun h => absurd h (by decide)) (fun _ => ?_)
  refine G_aload_n (pc := 917) dL_tables_917 rfl ?_
  refine G_sipush (pc := 918) (v := nI 200) dL_tables_918 (by first | rfl | decide) ?_
  refine R_V (pc := 921) (k' := (16651, 139449)) mok_X9_pass lk_L_26 (sh_k h.1) rfl rfl rfl rfl (aok0 rfl) dL_tables_921 (k_pass h (by decide) (m := 200) (t := 6633) (by decide +kernel) ⟨by decide, by decide, by decide⟩) (by decide) (by decide +kernel) rfl (fun Y' q => ?_)
  obtain ⟨-, g', A', h'⟩ := q
  refine G_val (w := nI 0) (by decide +kernel) ?_
  exact kk _ _ _ (CI_frz h' (by decide +kernel) (by decide +kernel))
theorem tq_132 {Γ : GTy} (hG : GS Γ) {W : WTy} {Z : HS} {g : GN} {A : FT} (h : CI 132 Z (toF tqN_116) g A) (kk : ∀ (Z' : HS) (g' : GN) (A' : FT), CI 133 Z' (toF tqN_117) g' A' → G Γ M_L_tables (rm M_L_tables) W (16653, 139461) 924 [some (.ref 800000), some (.int ((-73))), some (.int (nI 33))] [.int (nI 0)] Z') : G Γ M_L_tables (rm M_L_tables) W (16651, 139449) 924 [some (.ref 800000), some (.int ((-73))), some (.int (nI 32))] [.int (nI 0)] Z := by
  refine G_if_eq (pc := 924) (tgt := 929) dL_tables_924 (by decide) (fun _ => ?_) (fun h => absurd h (by decide))
  refine G_iincN (pc := 929) dL_tables_929 rfl (by decide) ?_
  show G _ _ _ _ _ _ [some (.ref 800000), some (.int ((-73))), some (.int (nI 33))] [] _
  refine G_goto (pc := 932) (tgt := 911) dL_tables_932 (by decide) ?_
  refine G_iload_n (pc := 911) dL_tables_911 rfl ?_
  refine G_bipush (pc := 912) (v := nI 48) dL_tables_912 (by first | rfl | decide) ?_
  refine G_icmp_ge (pc := 914) (tgt := 935) dL_tables_914 (by decide) (fun h => absurd h (by decide)) (fun _ => ?_)
  refine G_aload_n (pc := 917) dL_tables_917 rfl ?_
  refine G_sipush (pc := 918) (v := nI 200) dL_tables_918 (by first | rfl | decide) ?_
  refine R_V (pc := 921) (k' := (16653, 139461)) mok_X9_pass lk_L_26 (sh_k h.1) rfl rfl rfl rfl (aok0 rfl) dL_tables_921 (k_pass h (by decide) (m := 200) (t := 6833) (by decide +kernel) ⟨by decide, by decide, by decide⟩) (by decide) (by decide +kernel) rfl (fun Y' q => ?_)
  obtain ⟨-, g', A', h'⟩ := q
  refine G_val (w := nI 0) (by decide +kernel) ?_
  exact kk _ _ _ (CI_frz h' (by decide +kernel) (by decide +kernel))
theorem tq_133 {Γ : GTy} (hG : GS Γ) {W : WTy} {Z : HS} {g : GN} {A : FT} (h : CI 133 Z (toF tqN_117) g A) (kk : ∀ (Z' : HS) (g' : GN) (A' : FT), CI 134 Z' (toF tqN_118) g' A' → G Γ M_L_tables (rm M_L_tables) W (16655, 139473) 924 [some (.ref 800000), some (.int ((-73))), some (.int (nI 34))] [.int (nI 0)] Z') : G Γ M_L_tables (rm M_L_tables) W (16653, 139461) 924 [some (.ref 800000), some (.int ((-73))), some (.int (nI 33))] [.int (nI 0)] Z := by
  refine G_if_eq (pc := 924) (tgt := 929) dL_tables_924 (by decide) (fun _ => ?_) (fun h => absurd h (by decide))
  refine G_iincN (pc := 929) dL_tables_929 rfl (by decide) ?_
  show G _ _ _ _ _ _ [some (.ref 800000), some (.int ((-73))), some (.int (nI 34))] [] _
  refine G_goto (pc := 932) (tgt := 911) dL_tables_932 (by decide) ?_
  refine G_iload_n (pc := 911) dL_tables_911 rfl ?_
  refine G_bipush (pc := 912) (v := nI 48) dL_tables_912 (by first | rfl | decide) ?_
  refine G_icmp_ge (pc := 914) (tgt := 935) dL_tables_914 (by decide) (fun h => absurd h (by decide)) (fun _ => ?_)
  refine G_aload_n (pc := 917) dL_tables_917 rfl ?_
  refine G_sipush (pc := 918) (v := nI 200) dL_tables_918 (by first | rfl | decide) ?_
  refine R_V (pc := 921) (k' := (16655, 139473)) mok_X9_pass lk_L_26 (sh_k h.1) rfl rfl rfl rfl (aok0 rfl) dL_tables_921 (k_pass h (by decide) (m := 200) (t := 7033) (by decide +kernel) ⟨by decide, by decide, by decide⟩) (by decide) (by decide +kernel) rfl (fun Y' q => ?_)
  obtain ⟨-, g', A', h'⟩ := q
  refine G_val (w := nI 0) (by decide +kernel) ?_
  exact kk _ _ _ (CI_frz h' (by decide +kernel) (by decide +kernel))
theorem tq_134 {Γ : GTy} (hG : GS Γ) {W : WTy} {Z : HS} {g : GN} {A : FT} (h : CI 134 Z (toF tqN_118) g A) (kk : ∀ (Z' : HS) (g' : GN) (A' : FT), CI 135 Z' (toF tqN_119) g' A' → G Γ M_L_tables (rm M_L_tables) W (16657, 139485) 924 [some (.ref 800000), some (.int ((-73))), some (.int (nI 35))] [.int (nI 0)] Z') : G Γ M_L_tables (rm M_L_tables) W (16655, 139473) 924 [some (.ref 800000), some (.int ((-73))), some (.int (nI 34))] [.int (nI 0)] Z := by
  refine G_if_eq (pc := 924) (tgt := 929) dL_tables_924 (by decide) (fun _ => ?_) (fun h => absurd h (by decide))
  refine G_iincN (pc := 929) dL_tables_929 rfl (by decide) ?_
  show G _ _ _ _ _ _ [some (.ref 800000), some (.int ((-73))), some (.int (nI 35))] [] _
  refine G_goto (pc := 932) (tgt := 911) dL_tables_932 (by decide) ?_
  refine G_iload_n (pc := 911) dL_tables_911 rfl ?_
  refine G_bipush (pc := 912) (v := nI 48) dL_tables_912 (by first | rfl | decide) ?_
  refine G_icmp_ge (pc := 914) (tgt := 935) dL_tables_914 (by decide) (fun h => absurd h (by decide)) (fun _ => ?_)
  refine G_aload_n (pc := 917) dL_tables_917 rfl ?_
  refine G_sipush (pc := 918) (v := nI 200) dL_tables_918 (by first | rfl | decide) ?_
  refine R_V (pc := 921) (k' := (16657, 139485)) mok_X9_pass lk_L_26 (sh_k h.1) rfl rfl rfl rfl (aok0 rfl) dL_tables_921 (k_pass h (by decide) (m := 200) (t := 7233) (by decide +kernel) ⟨by decide, by decide, by decide⟩) (by decide) (by decide +kernel) rfl (fun Y' q => ?_)
  obtain ⟨-, g', A', h'⟩ := q
  refine G_val (w := nI 0) (by decide +kernel) ?_
  exact kk _ _ _ (CI_frz h' (by decide +kernel) (by decide +kernel))
theorem tq_135 {Γ : GTy} (hG : GS Γ) {W : WTy} {Z : HS} {g : GN} {A : FT} (h : CI 135 Z (toF tqN_119) g A) (kk : ∀ (Z' : HS) (g' : GN) (A' : FT), CI 136 Z' (toF tqN_120) g' A' → G Γ M_L_tables (rm M_L_tables) W (16659, 139497) 924 [some (.ref 800000), some (.int ((-73))), some (.int (nI 36))] [.int (nI 0)] Z') : G Γ M_L_tables (rm M_L_tables) W (16657, 139485) 924 [some (.ref 800000), some (.int ((-73))), some (.int (nI 35))] [.int (nI 0)] Z := by
  refine G_if_eq (pc := 924) (tgt := 929) dL_tables_924 (by decide) (fun _ => ?_) (fun h => absurd h (by decide))
  refine G_iincN (pc := 929) dL_tables_929 rfl (by decide) ?_
  show G _ _ _ _ _ _ [some (.ref 800000), some (.int ((-73))), some (.int (nI 36))] [] _
  refine G_goto (pc := 932) (tgt := 911) dL_tables_932 (by decide) ?_
  refine G_iload_n (pc := 911) dL_tables_911 rfl ?_
  refine G_bipush (pc := 912) (v := nI 48) dL_tables_912 (by first | rfl | decide) ?_
  refine G_icmp_ge (pc := 914) (tgt := 935) dL_tables_914 (by decide) (fun h => absurd h (by decide)) (fun _ => ?_)
  refine G_aload_n (pc := 917) dL_tables_917 rfl ?_
  refine G_sipush (pc := 918) (v := nI 200) dL_tables_918 (by first | rfl | decide) ?_
  refine R_V (pc := 921) (k' := (16659, 139497)) mok_X9_pass lk_L_26 (sh_k h.1) rfl rfl rfl rfl (aok0 rfl) dL_tables_921 (k_pass h (by decide) (m := 200) (t := 7433) (by decide +kernel) ⟨by decide, by decide, by decide⟩) (by decide) (by decide +kernel) rfl (fun Y' q => ?_)
  obtain ⟨-, g', A', h'⟩ := q
  refine G_val (w := nI 0) (by decide +kernel) ?_
  exact kk _ _ _ (CI_frz h' (by decide +kernel) (by decide +kernel))
theorem tq_136 {Γ : GTy} (hG : GS Γ) {W : WTy} {Z : HS} {g : GN} {A : FT} (h : CI 136 Z (toF tqN_120) g A) (kk : ∀ (Z' : HS) (g' : GN) (A' : FT), CI 137 Z' (toF tqN_121) g' A' → G Γ M_L_tables (rm M_L_tables) W (16661, 139509) 924 [some (.ref 800000), some (.int ((-73))), some (.int (nI 37))] [.int (nI 0)] Z') : G Γ M_L_tables (rm M_L_tables) W (16659, 139497) 924 [some (.ref 800000), some (.int ((-73))), some (.int (nI 36))] [.int (nI 0)] Z := by
  refine G_if_eq (pc := 924) (tgt := 929) dL_tables_924 (by decide) (fun _ => ?_) (fun h => absurd h (by decide))
  refine G_iincN (pc := 929) dL_tables_929 rfl (by decide) ?_
  show G _ _ _ _ _ _ [some (.ref 800000), some (.int ((-73))), some (.int (nI 37))] [] _
  refine G_goto (pc := 932) (tgt := 911) dL_tables_932 (by decide) ?_
  refine G_iload_n (pc := 911) dL_tables_911 rfl ?_
  refine G_bipush (pc := 912) (v := nI 48) dL_tables_912 (by first | rfl | decide) ?_
  refine G_icmp_ge (pc := 914) (tgt := 935) dL_tables_914 (by decide) (fun h => absurd h (by decide)) (fun _ => ?_)
  refine G_aload_n (pc := 917) dL_tables_917 rfl ?_
  refine G_sipush (pc := 918) (v := nI 200) dL_tables_918 (by first | rfl | decide) ?_
  refine R_V (pc := 921) (k' := (16661, 139509)) mok_X9_pass lk_L_26 (sh_k h.1) rfl rfl rfl rfl (aok0 rfl) dL_tables_921 (k_pass h (by decide) (m := 200) (t := 7633) (by decide +kernel) ⟨by decide, by decide, by decide⟩) (by decide) (by decide +kernel) rfl (fun Y' q => ?_)
  obtain ⟨-, g', A', h'⟩ := q
  refine G_val (w := nI 0) (by decide +kernel) ?_
  exact kk _ _ _ (CI_frz h' (by decide +kernel) (by decide +kernel))
theorem tq_137 {Γ : GTy} (hG : GS Γ) {W : WTy} {Z : HS} {g : GN} {A : FT} (h : CI 137 Z (toF tqN_121) g A) (kk : ∀ (Z' : HS) (g' : GN) (A' : FT), CI 138 Z' (toF tqN_122) g' A' → G Γ M_L_tables (rm M_L_tables) W (16663, 139521) 924 [some (.ref 800000), some (.int ((-73))), some (.int (nI 38))] [.int (nI 0)] Z') : G Γ M_L_tables (rm M_L_tables) W (16661, 139509) 924 [some (.ref 800000), some (.int ((-73))), some (.int (nI 37))] [.int (nI 0)] Z := by
  refine G_if_eq (pc := 924) (tgt := 929) dL_tables_924 (by decide) (fun _ => ?_) (fun h => absurd h (by decide))
  refine G_iincN (pc := 929) dL_tables_929 rfl (by decide) ?_
  show G _ _ _ _ _ _ [some (.ref 800000), some (.int ((-73))), some (.int (nI 38))] [] _
  refine G_goto (pc := 932) (tgt := 911) dL_tables_932 (by decide) ?_
  refine G_iload_n (pc := 911) dL_tables_911 rfl ?_
  refine G_bipush (pc := 912) (v := nI 48) dL_tables_912 (by first | rfl | decide) ?_
  refine G_icmp_ge (pc := 914) (tgt := 935) dL_tables_914 (by decide) (fun h => absurd h (by decide)) (fun _ => ?_)
  refine G_aload_n (pc := 917) dL_tables_917 rfl ?_
  refine G_sipush (pc := 918) (v := nI 200) dL_tables_918 (by first | rfl | decide) ?_
  refine R_V (pc := 921) (k' := (16663, 139521)) mok_X9_pass lk_L_26 (sh_k h.1) rfl rfl rfl rfl (aok0 rfl) dL_tables_921 (k_pass h (by decide) (m := 200) (t := 7833) (by decide +kernel) ⟨by decide, by decide, by decide⟩) (by decide) (by decide +kernel) rfl (fun Y' q => ?_)
  obtain ⟨-, g', A', h'⟩ := q
  refine G_val (w := nI 0) (by decide +kernel) ?_
  exact kk _ _ _ (CI_frz h' (by decide +kernel) (by decide +kernel))
theorem tq_138 {Γ : GTy} (hG : GS Γ) {W : WTy} {Z : HS} {g : GN} {A : FT} (h : CI 138 Z (toF tqN_122) g A) (kk : ∀ (Z' : HS) (g' : GN) (A' : FT), CI 139 Z' (toF tqN_123) g' A' → G Γ M_L_tables (rm M_L_tables) W (16665, 139533) 924 [some (.ref 800000), some (.int ((-73))), some (.int (nI 39))] [.int (nI 0)] Z') : G Γ M_L_tables (rm M_L_tables) W (16663, 139521) 924 [some (.ref 800000), some (.int ((-73))), some (.int (nI 38))] [.int (nI 0)] Z := by
  refine G_if_eq (pc := 924) (tgt := 929) dL_tables_924 (by decide) (fun _ => ?_) (fun h => absurd h (by decide))
  refine G_iincN (pc := 929) dL_tables_929 rfl (by decide) ?_
  show G _ _ _ _ _ _ [some (.ref 800000), some (.int ((-73))), some (.int (nI 39))] [] _
  refine G_goto (pc := 932) (tgt := 911) dL_tables_932 (by decide) ?_
  refine G_iload_n (pc := 911) dL_tables_911 rfl ?_
  refine G_bipush (pc := 912) (v := nI 48) dL_tables_912 (by first | rfl | decide) ?_
  refine G_icmp_ge (pc := 914) (tgt := 935) dL_tables_914 (by decide) (fun h => absurd h (by decide)) (fun _ => ?_)
  refine G_aload_n (pc := 917) dL_tables_917 rfl ?_
  refine G_sipush (pc := 918) (v := nI 200) dL_tables_918 (by first | rfl | decide) ?_
  refine R_V (pc := 921) (k' := (16665, 139533)) mok_X9_pass lk_L_26 (sh_k h.1) rfl rfl rfl rfl (aok0 rfl) dL_tables_921 (k_pass h (by decide) (m := 200) (t := 8033) (by decide +kernel) ⟨by decide, by decide, by decide⟩) (by decide) (by decide +kernel) rfl (fun Y' q => ?_)
  obtain ⟨-, g', A', h'⟩ := q
  refine G_val (w := nI 0) (by decide +kernel) ?_
  exact kk _ _ _ (CI_frz h' (by decide +kernel) (by decide +kernel))
theorem tq_139 {Γ : GTy} (hG : GS Γ) {W : WTy} {Z : HS} {g : GN} {A : FT} (h : CI 139 Z (toF tqN_123) g A) (kk : ∀ (Z' : HS) (g' : GN) (A' : FT), CI 140 Z' (toF tqN_124) g' A' → G Γ M_L_tables (rm M_L_tables) W (16667, 139545) 924 [some (.ref 800000), some (.int ((-73))), some (.int (nI 40))] [.int (nI 0)] Z') : G Γ M_L_tables (rm M_L_tables) W (16665, 139533) 924 [some (.ref 800000), some (.int ((-73))), some (.int (nI 39))] [.int (nI 0)] Z := by
  refine G_if_eq (pc := 924) (tgt := 929) dL_tables_924 (by decide) (fun _ => ?_) (fun h => absurd h (by decide))
  refine G_iincN (pc := 929) dL_tables_929 rfl (by decide) ?_
  show G _ _ _ _ _ _ [some (.ref 800000), some (.int ((-73))), some (.int (nI 40))] [] _
  refine G_goto (pc := 932) (tgt := 911) dL_tables_932 (by decide) ?_
  refine G_iload_n (pc := 911) dL_tables_911 rfl ?_
  refine G_bipush (pc := 912) (v := nI 48) dL_tables_912 (by first | rfl | decide) ?_
  refine G_icmp_ge (pc := 914) (tgt := 935) dL_tables_914 (by decide) (fun h => absurd h (by decide)) (fun _ => ?_)
  refine G_aload_n (pc := 917) dL_tables_917 rfl ?_
  refine G_sipush (pc := 918) (v := nI 200) dL_tables_918 (by first | rfl | decide) ?_
  refine R_V (pc := 921) (k' := (16667, 139545)) mok_X9_pass lk_L_26 (sh_k h.1) rfl rfl rfl rfl (aok0 rfl) dL_tables_921 (k_pass h (by decide) (m := 200) (t := 8233) (by decide +kernel) ⟨by decide, by decide, by decide⟩) (by decide) (by decide +kernel) rfl (fun Y' q => ?_)
  obtain ⟨-, g', A', h'⟩ := q
  refine G_val (w := nI 0) (by decide +kernel) ?_
  exact kk _ _ _ (CI_frz h' (by decide +kernel) (by decide +kernel))
theorem tq_140 {Γ : GTy} (hG : GS Γ) {W : WTy} {Z : HS} {g : GN} {A : FT} (h : CI 140 Z (toF tqN_124) g A) (kk : ∀ (Z' : HS) (g' : GN) (A' : FT), CI 141 Z' (toF tqN_125) g' A' → G Γ M_L_tables (rm M_L_tables) W (16669, 139557) 924 [some (.ref 800000), some (.int ((-73))), some (.int (nI 41))] [.int (nI 0)] Z') : G Γ M_L_tables (rm M_L_tables) W (16667, 139545) 924 [some (.ref 800000), some (.int ((-73))), some (.int (nI 40))] [.int (nI 0)] Z := by
  refine G_if_eq (pc := 924) (tgt := 929) dL_tables_924 (by decide) (fun _ => ?_) (fun h => absurd h (by decide))
  refine G_iincN (pc := 929) dL_tables_929 rfl (by decide) ?_
  show G _ _ _ _ _ _ [some (.ref 800000), some (.int ((-73))), some (.int (nI 41))] [] _
  refine G_goto (pc := 932) (tgt := 911) dL_tables_932 (by decide) ?_
  refine G_iload_n (pc := 911) dL_tables_911 rfl ?_
  refine G_bipush (pc := 912) (v := nI 48) dL_tables_912 (by first | rfl | decide) ?_
  refine G_icmp_ge (pc := 914) (tgt := 935) dL_tables_914 (by decide) (fun h => absurd h (by decide)) (fun _ => ?_)
  refine G_aload_n (pc := 917) dL_tables_917 rfl ?_
  refine G_sipush (pc := 918) (v := nI 200) dL_tables_918 (by first | rfl | decide) ?_
  refine R_V (pc := 921) (k' := (16669, 139557)) mok_X9_pass lk_L_26 (sh_k h.1) rfl rfl rfl rfl (aok0 rfl) dL_tables_921 (k_pass h (by decide) (m := 200) (t := 8433) (by decide +kernel) ⟨by decide, by decide, by decide⟩) (by decide) (by decide +kernel) rfl (fun Y' q => ?_)
  obtain ⟨-, g', A', h'⟩ := q
  refine G_val (w := nI 0) (by decide +kernel) ?_
  exact kk _ _ _ (CI_frz h' (by decide +kernel) (by decide +kernel))
theorem tq_141 {Γ : GTy} (hG : GS Γ) {W : WTy} {Z : HS} {g : GN} {A : FT} (h : CI 141 Z (toF tqN_125) g A) (kk : ∀ (Z' : HS) (g' : GN) (A' : FT), CI 142 Z' (toF tqN_126) g' A' → G Γ M_L_tables (rm M_L_tables) W (16671, 139569) 924 [some (.ref 800000), some (.int ((-73))), some (.int (nI 42))] [.int (nI 0)] Z') : G Γ M_L_tables (rm M_L_tables) W (16669, 139557) 924 [some (.ref 800000), some (.int ((-73))), some (.int (nI 41))] [.int (nI 0)] Z := by
  refine G_if_eq (pc := 924) (tgt := 929) dL_tables_924 (by decide) (fun _ => ?_) (fun h => absurd h (by decide))
  refine G_iincN (pc := 929) dL_tables_929 rfl (by decide) ?_
  show G _ _ _ _ _ _ [some (.ref 800000), some (.int ((-73))), some (.int (nI 42))] [] _
  refine G_goto (pc := 932) (tgt := 911) dL_tables_932 (by decide) ?_
  refine G_iload_n (pc := 911) dL_tables_911 rfl ?_
  refine G_bipush (pc := 912) (v := nI 48) dL_tables_912 (by first | rfl | decide) ?_
  refine G_icmp_ge (pc := 914) (tgt := 935) dL_tables_914 (by decide) (fun h => absurd h (by decide)) (fun _ => ?_)
  refine G_aload_n (pc := 917) dL_tables_917 rfl ?_
  refine G_sipush (pc := 918) (v := nI 200) dL_tables_918 (by first | rfl | decide) ?_
  refine R_V (pc := 921) (k' := (16671, 139569)) mok_X9_pass lk_L_26 (sh_k h.1) rfl rfl rfl rfl (aok0 rfl) dL_tables_921 (k_pass h (by decide) (m := 200) (t := 8633) (by decide +kernel) ⟨by decide, by decide, by decide⟩) (by decide) (by decide +kernel) rfl (fun Y' q => ?_)
  obtain ⟨-, g', A', h'⟩ := q
  refine G_val (w := nI 0) (by decide +kernel) ?_
  exact kk _ _ _ (CI_frz h' (by decide +kernel) (by decide +kernel))
theorem tq_142 {Γ : GTy} (hG : GS Γ) {W : WTy} {Z : HS} {g : GN} {A : FT} (h : CI 142 Z (toF tqN_126) g A) (kk : ∀ (Z' : HS) (g' : GN) (A' : FT), CI 143 Z' (toF tqN_127) g' A' → G Γ M_L_tables (rm M_L_tables) W (16673, 139581) 924 [some (.ref 800000), some (.int ((-73))), some (.int (nI 43))] [.int (nI 0)] Z') : G Γ M_L_tables (rm M_L_tables) W (16671, 139569) 924 [some (.ref 800000), some (.int ((-73))), some (.int (nI 42))] [.int (nI 0)] Z := by
  refine G_if_eq (pc := 924) (tgt := 929) dL_tables_924 (by decide) (fun _ => ?_) (fun h => absurd h (by decide))
  refine G_iincN (pc := 929) dL_tables_929 rfl (by decide) ?_
  show G _ _ _ _ _ _ [some (.ref 800000), some (.int ((-73))), some (.int (nI 43))] [] _
  refine G_goto (pc := 932) (tgt := 911) dL_tables_932 (by decide) ?_
  refine G_iload_n (pc := 911) dL_tables_911 rfl ?_
  refine G_bipush (pc := 912) (v := nI 48) dL_tables_912 (by first | rfl | decide) ?_
  refine G_icmp_ge (pc := 914) (tgt := 935) dL_tables_914 (by decide) (fun h => absurd h (by decide)) (fun _ => ?_)
  refine G_aload_n (pc := 917) dL_tables_917 rfl ?_
  refine G_sipush (pc := 918) (v := nI 200) dL_tables_918 (by first | rfl | decide) ?_
  refine R_V (pc := 921) (k' := (16673, 139581)) mok_X9_pass lk_L_26 (sh_k h.1) rfl rfl rfl rfl (aok0 rfl) dL_tables_921 (k_pass h (by decide) (m := 200) (t := 8833) (by decide +kernel) ⟨by decide, by decide, by decide⟩) (by decide) (by decide +kernel) rfl (fun Y' q => ?_)
  obtain ⟨-, g', A', h'⟩ := q
  refine G_val (w := nI 0) (by decide +kernel) ?_
  exact kk _ _ _ (CI_frz h' (by decide +kernel) (by decide +kernel))
theorem tq_143 {Γ : GTy} (hG : GS Γ) {W : WTy} {Z : HS} {g : GN} {A : FT} (h : CI 143 Z (toF tqN_127) g A) (kk : ∀ (Z' : HS) (g' : GN) (A' : FT), CI 144 Z' (toF tqN_128) g' A' → G Γ M_L_tables (rm M_L_tables) W (16675, 139593) 924 [some (.ref 800000), some (.int ((-73))), some (.int (nI 44))] [.int (nI 0)] Z') : G Γ M_L_tables (rm M_L_tables) W (16673, 139581) 924 [some (.ref 800000), some (.int ((-73))), some (.int (nI 43))] [.int (nI 0)] Z := by
  refine G_if_eq (pc := 924) (tgt := 929) dL_tables_924 (by decide) (fun _ => ?_) (fun h => absurd h (by decide))
  refine G_iincN (pc := 929) dL_tables_929 rfl (by decide) ?_
  show G _ _ _ _ _ _ [some (.ref 800000), some (.int ((-73))), some (.int (nI 44))] [] _
  refine G_goto (pc := 932) (tgt := 911) dL_tables_932 (by decide) ?_
  refine G_iload_n (pc := 911) dL_tables_911 rfl ?_
  refine G_bipush (pc := 912) (v := nI 48) dL_tables_912 (by first | rfl | decide) ?_
  refine G_icmp_ge (pc := 914) (tgt := 935) dL_tables_914 (by decide) (fun h => absurd h (by decide)) (fun _ => ?_)
  refine G_aload_n (pc := 917) dL_tables_917 rfl ?_
  refine G_sipush (pc := 918) (v := nI 200) dL_tables_918 (by first | rfl | decide) ?_
  refine R_V (pc := 921) (k' := (16675, 139593)) mok_X9_pass lk_L_26 (sh_k h.1) rfl rfl rfl rfl (aok0 rfl) dL_tables_921 (k_pass h (by decide) (m := 200) (t := 9033) (by decide +kernel) ⟨by decide, by decide, by decide⟩) (by decide) (by decide +kernel) rfl (fun Y' q => ?_)
  obtain ⟨-, g', A', h'⟩ := q
  refine G_val (w := nI 0) (by decide +kernel) ?_
  exact kk _ _ _ (CI_frz h' (by decide +kernel) (by decide +kernel))
theorem tq_144 {Γ : GTy} (hG : GS Γ) {W : WTy} {Z : HS} {g : GN} {A : FT} (h : CI 144 Z (toF tqN_128) g A) (kk : ∀ (Z' : HS) (g' : GN) (A' : FT), CI 145 Z' (toF tqN_129) g' A' → G Γ M_L_tables (rm M_L_tables) W (16677, 139605) 924 [some (.ref 800000), some (.int ((-73))), some (.int (nI 45))] [.int (nI 0)] Z') : G Γ M_L_tables (rm M_L_tables) W (16675, 139593) 924 [some (.ref 800000), some (.int ((-73))), some (.int (nI 44))] [.int (nI 0)] Z := by
  refine G_if_eq (pc := 924) (tgt := 929) dL_tables_924 (by decide) (fun _ => ?_) (fun h => absurd h (by decide))
  refine G_iincN (pc := 929) dL_tables_929 rfl (by decide) ?_
  show G _ _ _ _ _ _ [some (.ref 800000), some (.int ((-73))), some (.int (nI 45))] [] _
  refine G_goto (pc := 932) (tgt := 911) dL_tables_932 (by decide) ?_
  refine G_iload_n (pc := 911) dL_tables_911 rfl ?_
  refine G_bipush (pc := 912) (v := nI 48) dL_tables_912 (by first | rfl | decide) ?_
  refine G_icmp_ge (pc := 914) (tgt := 935) dL_tables_914 (by decide) (fun h => absurd h (by decide)) (fun _ => ?_)
  refine G_aload_n (pc := 917) dL_tables_917 rfl ?_
  refine G_sipush (pc := 918) (v := nI 200) dL_tables_918 (by first | rfl | decide) ?_
  refine R_V (pc := 921) (k' := (16677, 139605)) mok_X9_pass lk_L_26 (sh_k h.1) rfl rfl rfl rfl (aok0 rfl) dL_tables_921 (k_pass h (by decide) (m := 200) (t := 9233) (by decide +kernel) ⟨by decide, by decide, by decide⟩) (by decide) (by decide +kernel) rfl (fun Y' q => ?_)
  obtain ⟨-, g', A', h'⟩ := q
  refine G_val (w := nI 0) (by decide +kernel) ?_
  exact kk _ _ _ (CI_frz h' (by decide +kernel) (by decide +kernel))
theorem tq_145 {Γ : GTy} (hG : GS Γ) {W : WTy} {Z : HS} {g : GN} {A : FT} (h : CI 145 Z (toF tqN_129) g A) (kk : ∀ (Z' : HS) (g' : GN) (A' : FT), CI 146 Z' (toF tqN_130) g' A' → G Γ M_L_tables (rm M_L_tables) W (16679, 139617) 924 [some (.ref 800000), some (.int ((-73))), some (.int (nI 46))] [.int (nI 0)] Z') : G Γ M_L_tables (rm M_L_tables) W (16677, 139605) 924 [some (.ref 800000), some (.int ((-73))), some (.int (nI 45))] [.int (nI 0)] Z := by
  refine G_if_eq (pc := 924) (tgt := 929) dL_tables_924 (by decide) (fun _ => ?_) (fun h => absurd h (by decide))
  refine G_iincN (pc := 929) dL_tables_929 rfl (by decide) ?_
  show G _ _ _ _ _ _ [some (.ref 800000), some (.int ((-73))), some (.int (nI 46))] [] _
  refine G_goto (pc := 932) (tgt := 911) dL_tables_932 (by decide) ?_
  refine G_iload_n (pc := 911) dL_tables_911 rfl ?_
  refine G_bipush (pc := 912) (v := nI 48) dL_tables_912 (by first | rfl | decide) ?_
  refine G_icmp_ge (pc := 914) (tgt := 935) dL_tables_914 (by decide) (fun h => absurd h (by decide)) (fun _ => ?_)
  refine G_aload_n (pc := 917) dL_tables_917 rfl ?_
  refine G_sipush (pc := 918) (v := nI 200) dL_tables_918 (by first | rfl | decide) ?_
  refine R_V (pc := 921) (k' := (16679, 139617)) mok_X9_pass lk_L_26 (sh_k h.1) rfl rfl rfl rfl (aok0 rfl) dL_tables_921 (k_pass h (by decide) (m := 200) (t := 9433) (by decide +kernel) ⟨by decide, by decide, by decide⟩) (by decide) (by decide +kernel) rfl (fun Y' q => ?_)
  obtain ⟨-, g', A', h'⟩ := q
  refine G_val (w := nI 0) (by decide +kernel) ?_
  exact kk _ _ _ (CI_frz h' (by decide +kernel) (by decide +kernel))
theorem tq_146 {Γ : GTy} (hG : GS Γ) {W : WTy} {Z : HS} {g : GN} {A : FT} (h : CI 146 Z (toF tqN_130) g A) (kk : ∀ (Z' : HS) (g' : GN) (A' : FT), CI 147 Z' (toF tqN_131) g' A' → G Γ M_L_tables (rm M_L_tables) W (16681, 139629) 924 [some (.ref 800000), some (.int ((-73))), some (.int (nI 47))] [.int (nI 0)] Z') : G Γ M_L_tables (rm M_L_tables) W (16679, 139617) 924 [some (.ref 800000), some (.int ((-73))), some (.int (nI 46))] [.int (nI 0)] Z := by
  refine G_if_eq (pc := 924) (tgt := 929) dL_tables_924 (by decide) (fun _ => ?_) (fun h => absurd h (by decide))
  refine G_iincN (pc := 929) dL_tables_929 rfl (by decide) ?_
  show G _ _ _ _ _ _ [some (.ref 800000), some (.int ((-73))), some (.int (nI 47))] [] _
  refine G_goto (pc := 932) (tgt := 911) dL_tables_932 (by decide) ?_
  refine G_iload_n (pc := 911) dL_tables_911 rfl ?_
  refine G_bipush (pc := 912) (v := nI 48) dL_tables_912 (by first | rfl | decide) ?_
  refine G_icmp_ge (pc := 914) (tgt := 935) dL_tables_914 (by decide) (fun h => absurd h (by decide)) (fun _ => ?_)
  refine G_aload_n (pc := 917) dL_tables_917 rfl ?_
  refine G_sipush (pc := 918) (v := nI 200) dL_tables_918 (by first | rfl | decide) ?_
  refine R_V (pc := 921) (k' := (16681, 139629)) mok_X9_pass lk_L_26 (sh_k h.1) rfl rfl rfl rfl (aok0 rfl) dL_tables_921 (k_pass h (by decide) (m := 200) (t := 9633) (by decide +kernel) ⟨by decide, by decide, by decide⟩) (by decide) (by decide +kernel) rfl (fun Y' q => ?_)
  obtain ⟨-, g', A', h'⟩ := q
  refine G_val (w := nI 0) (by decide +kernel) ?_
  exact kk _ _ _ (CI_frz h' (by decide +kernel) (by decide +kernel))
theorem tq_147 {Γ : GTy} (hG : GS Γ) {W : WTy} {Z : HS} {g : GN} {A : FT} (h : CI 147 Z (toF tqN_131) g A) (kk : ∀ (Z' : HS) (g' : GN) (A' : FT), CI 148 Z' (toF tqN_132) g' A' → G Γ M_L_tables (rm M_L_tables) W (16695, 139741) 966 [some (.ref 800000), some (.int ((-73))), some (.int (nI 48))] [.int (nI 0)] Z') : G Γ M_L_tables (rm M_L_tables) W (16681, 139629) 924 [some (.ref 800000), some (.int ((-73))), some (.int (nI 47))] [.int (nI 0)] Z := by
  refine G_if_eq (pc := 924) (tgt := 929) dL_tables_924 (by decide) (fun _ => ?_) (fun h => absurd h (by decide))
  refine G_iincN (pc := 929) dL_tables_929 rfl (by decide) ?_
  show G _ _ _ _ _ _ [some (.ref 800000), some (.int ((-73))), some (.int (nI 48))] [] _
  refine G_goto (pc := 932) (tgt := 911) dL_tables_932 (by decide) ?_
  refine G_iload_n (pc := 911) dL_tables_911 rfl ?_
  refine G_bipush (pc := 912) (v := nI 48) dL_tables_912 (by first | rfl | decide) ?_
  refine G_icmp_ge (pc := 914) (tgt := 935) dL_tables_914 (by decide) (fun _ => ?_) (fun h => absurd h (by decide))
  refine G_aload_n (pc := 935) dL_tables_935 rfl ?_
  refine K_Vn0r (pc := 936) (k' := (16681, 139629)) mok_X9_minute lk_L_117 (sh_k h.1) rfl rfl rfl (aok0 rfl) dL_tables_936 (t_minute h) rfl ?_
  refine G_val (w := nI 9833) (by decide +kernel) ?_
  refine G_sipush (pc := 939) (v := nI 9833) dL_tables_939 (by first | rfl | decide) ?_
  refine G_icmp_ne (pc := 942) (tgt := 994) dL_tables_942 (by decide) (fun h => absurd h (by decide)) (fun _ => ?_)
  refine G_aload_n (pc := 945) dL_tables_945 rfl ?_
  refine G_iconst (pc := 946) (v := nI 5) dL_tables_946 (by first | rfl | decide) ?_
  refine G_sipush (pc := 947) (v := nI 168) dL_tables_947 (by first | rfl | decide) ?_
  refine G_iconst (pc := 950) (v := nI 0) dL_tables_950 (by first | rfl | decide) ?_
  refine G_iconst (pc := 951) (v := nI 0) dL_tables_951 (by first | rfl | decide) ?_
  refine K_SW5 (pc := 952) (k' := (16693, 139729)) mok_L_act lk_L_122 rfl (by exact (fun _ => ⟨rfl, fun r hr => by rw [List.mem_singleton.mp (show r ∈ [800000] from hr), sh_k h.1]; decide, fun _ hr => nomatch hr⟩)) dL_tables_952 (k_passY h (m := 168) (t := 9833) (by decide +kernel) ⟨by decide, by decide, by decide, by decide⟩) rfl (fun v Y' q => ?_) (fun E Y' q => q.elim)
  obtain ⟨rfl, rfl⟩ := q
  show G _ _ _ _ _ _ _ (_ :: _) _
  refine G_iload_n (pc := 955) dL_tables_955 rfl ?_
  refine G_icmp_ne (pc := 956) (tgt := 994) dL_tables_956 (by decide) (fun h => absurd h (by decide)) (fun _ => ?_)
  refine G_aload_n (pc := 959) dL_tables_959 rfl ?_
  refine G_sipush (pc := 960) (v := nI 167) dL_tables_960 (by first | rfl | decide) ?_
  refine R_V (pc := 963) (k' := (16695, 139741)) mok_X9_pass lk_L_26 (sh_k h.1) rfl rfl rfl rfl (aok0 rfl) dL_tables_963 (k_pass h (by decide) (m := 167) (t := 9833) (by decide +kernel) ⟨by decide, by decide, by decide⟩) (by decide) (by decide +kernel) rfl (fun Y' q => ?_)
  obtain ⟨-, g', A', h'⟩ := q
  refine G_val (w := nI 0) (by decide +kernel) ?_
  exact kk _ _ _ (CI_frz h' (by decide +kernel) (by decide +kernel))
