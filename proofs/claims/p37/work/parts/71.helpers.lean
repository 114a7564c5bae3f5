-- ===== owe, bed, frame, meets =====
theorem cl_of {x : Int32} {m : Nat} (h : x = nI m) (hm : m < 2 ^ 31) : m = x.toNatClampNeg := by rw [h, nI_clamp hm]
theorem C_owe {Γ : GTy} {n : Nat} {Z : HS} {F A : FT} {g : GN} (h : CI n Z F g A) {c : Nat} {v : Int32} (hc : c < 8) (hv : owe F c = v) : Tn Γ M_L_owe [.ref 800000, .int (nI c), .int v] Z (rt (some (.int (nI 1))) Z) := by
  have g20 := h.2.1.1.1.2.2
  refine Tn_of' rfl rfl rfl ?_
  show G Γ M_L_owe (rm M_L_owe) (Vn Γ M_L_owe (rt (some (.int (nI 1))) Z)) (0, 0) 0 [some (.ref 800000), some (.int (nI c)), some (.int v)] [] Z
  refine G_aload_n (pc := 0) dL_owe_0 rfl ?_
  refine G_iload_n (pc := 1) dL_owe_1 rfl ?_
  refine R_V (pc := 2) (k' := (1, 6)) mok_X9_owes lk_L_62 (sh_k h.1) rfl rfl rfl rfl (aok0 rfl) dL_owe_2 (t_owes h hc) (by decide) u2_e rfl (fun Y' q => ?_)
  subst q
  refine G_iload_n (pc := 5) dL_owe_5 rfl ?_
  refine G_icmp_ne (pc := 6) (tgt := 22) dL_owe_6 (by decide) (fun c6 => ?_) (fun c6 => ?_)
  · exact absurd hv c6
  · skip
    refine G_aload_n (pc := 9) dL_owe_9 rfl ?_
    refine G_iload_n (pc := 10) dL_owe_10 rfl ?_
    refine R_V (pc := 11) (k' := (2, 12)) mok_X9_owesAnew lk_L_65 (sh_k h.1) rfl rfl rfl rfl (aok0 rfl) dL_owe_11 (t_owesAnew h hc) (by decide) u2_e rfl (fun Y' q => ?_)
    subst q
    refine G_iload_n (pc := 14) dL_owe_14 rfl ?_
    refine G_icmp_ne (pc := 15) (tgt := 22) dL_owe_15 (by decide) (fun c15 => ?_) (fun c15 => ?_)
    · exact absurd hv c15
    · skip
      refine G_iconst (pc := 18) (v := nI 1) dL_owe_18 (by first | rfl | decide) ?_
      refine G_goto (pc := 19) (tgt := 23) dL_owe_19 (by decide) ?_
      refine G_zret (pc := 23) VZ.n dL_owe_23 rfl (Or.inr rfl) ⟨by decide, by decide⟩ ?_
      exact ⟨rfl, rfl⟩
theorem C_bed {Γ : GTy} {n : Nat} {Z : HS} {F A : FT} {g : GN} (h : CI n Z F g A) {f : Nat} {w0 w1 w2 w3 w5 w7 : Int32} (hf : f < g 16 0) (h0 : F 118 (8 * f + 0) = w0) (h1 : F 118 (8 * f + 1) = w1) (h2 : F 118 (8 * f + 2) = w2) (h3 : F 118 (8 * f + 3) = w3) (h4 : F 118 (8 * f + 4) = nI 44) (h5 : F 118 (8 * f + 5) = w5) (h6 : F 118 (8 * f + 6) = nI 108) (h7 : F 118 (8 * f + 7) = w7) : Tn Γ M_L_bed [.ref 800000, .int (nI f), .int w0, .int w1, .int w2, .int w3, .int w5, .int w7] Z (rt (some (.int (nI 1))) Z) := by
  have g20 := h.2.1.1.1.2.2
  refine Tn_of' rfl rfl rfl ?_
  show G Γ M_L_bed (rm M_L_bed) (Vn Γ M_L_bed (rt (some (.int (nI 1))) Z)) (0, 0) 0 [some (.ref 800000), some (.int (nI f)), some (.int w0), some (.int w1), some (.int w2), some (.int w3), some (.int w5), some (.int w7)] [] Z
  refine G_aload_n (pc := 0) dL_bed_0 rfl ?_
  refine G_iload_n (pc := 1) dL_bed_1 rfl ?_
  refine G_iconst (pc := 2) (v := nI 0) dL_bed_2 (by first | rfl | decide) ?_
  refine R_V (pc := 3) (k' := (2, 12)) mok_X9_cell lk_L_96 (sh_k h.1) rfl rfl rfl rfl (aok0 rfl) dL_bed_3 (t_cell h hf (b := 0) (by decide)) (by decide) u2_e rfl (fun Y' q => ?_)
  subst q
  refine G_iload_n (pc := 6) dL_bed_6 rfl ?_
  refine G_icmp_ne (pc := 7) (tgt := 92) dL_bed_7 (by decide) (fun c7 => ?_) (fun c7 => ?_)
  · exact absurd h0 c7
  · skip
    refine G_aload_n (pc := 10) dL_bed_10 rfl ?_
    refine G_iload_n (pc := 11) dL_bed_11 rfl ?_
    refine G_iconst (pc := 12) (v := nI 1) dL_bed_12 (by first | rfl | decide) ?_
    refine R_V (pc := 13) (k' := (4, 24)) mok_X9_cell lk_L_96 (sh_k h.1) rfl rfl rfl rfl (aok0 rfl) dL_bed_13 (t_cell h hf (b := 1) (by decide)) (by decide) u2_e rfl (fun Y' q => ?_)
    subst q
    refine G_iload_n (pc := 16) dL_bed_16 rfl ?_
    refine G_icmp_ne (pc := 17) (tgt := 92) dL_bed_17 (by decide) (fun c17 => ?_) (fun c17 => ?_)
    · exact absurd h1 c17
    · skip
      refine G_aload_n (pc := 20) dL_bed_20 rfl ?_
      refine G_iload_n (pc := 21) dL_bed_21 rfl ?_
      refine G_iconst (pc := 22) (v := nI 2) dL_bed_22 (by first | rfl | decide) ?_
      refine R_V (pc := 23) (k' := (6, 36)) mok_X9_cell lk_L_96 (sh_k h.1) rfl rfl rfl rfl (aok0 rfl) dL_bed_23 (t_cell h hf (b := 2) (by decide)) (by decide) u2_e rfl (fun Y' q => ?_)
      subst q
      refine G_iload (pc := 26) dL_bed_26 rfl ?_
      refine G_icmp_ne (pc := 28) (tgt := 92) dL_bed_28 (by decide) (fun c28 => ?_) (fun c28 => ?_)
      · exact absurd h2 c28
      · skip
        refine G_aload_n (pc := 31) dL_bed_31 rfl ?_
        refine G_iload_n (pc := 32) dL_bed_32 rfl ?_
        refine G_iconst (pc := 33) (v := nI 3) dL_bed_33 (by first | rfl | decide) ?_
        refine R_V (pc := 34) (k' := (8, 48)) mok_X9_cell lk_L_96 (sh_k h.1) rfl rfl rfl rfl (aok0 rfl) dL_bed_34 (t_cell h hf (b := 3) (by decide)) (by decide) u2_e rfl (fun Y' q => ?_)
        subst q
        refine G_iload (pc := 37) dL_bed_37 rfl ?_
        refine G_icmp_ne (pc := 39) (tgt := 92) dL_bed_39 (by decide) (fun c39 => ?_) (fun c39 => ?_)
        · exact absurd h3 c39
        · skip
          refine G_aload_n (pc := 42) dL_bed_42 rfl ?_
          refine G_iload_n (pc := 43) dL_bed_43 rfl ?_
          refine G_iconst (pc := 44) (v := nI 4) dL_bed_44 (by first | rfl | decide) ?_
          refine R_V (pc := 45) (k' := (10, 60)) mok_X9_cell lk_L_96 (sh_k h.1) rfl rfl rfl rfl (aok0 rfl) dL_bed_45 (t_cell h hf (b := 4) (by decide)) (by decide) u2_e rfl (fun Y' q => ?_)
          subst q
          refine G_bipush (pc := 48) (v := nI 44) dL_bed_48 (by first | rfl | decide) ?_
          refine G_icmp_ne (pc := 50) (tgt := 92) dL_bed_50 (by decide) (fun c50 => ?_) (fun c50 => ?_)
          · exact absurd h4 c50
          · skip
            refine G_aload_n (pc := 53) dL_bed_53 rfl ?_
            refine G_iload_n (pc := 54) dL_bed_54 rfl ?_
            refine G_iconst (pc := 55) (v := nI 5) dL_bed_55 (by first | rfl | decide) ?_
            refine R_V (pc := 56) (k' := (12, 72)) mok_X9_cell lk_L_96 (sh_k h.1) rfl rfl rfl rfl (aok0 rfl) dL_bed_56 (t_cell h hf (b := 5) (by decide)) (by decide) u2_e rfl (fun Y' q => ?_)
            subst q
            refine G_iload (pc := 59) dL_bed_59 rfl ?_
            refine G_icmp_ne (pc := 61) (tgt := 92) dL_bed_61 (by decide) (fun c61 => ?_) (fun c61 => ?_)
            · exact absurd h5 c61
            · skip
              refine G_aload_n (pc := 64) dL_bed_64 rfl ?_
              refine G_iload_n (pc := 65) dL_bed_65 rfl ?_
              refine G_bipush (pc := 66) (v := nI 6) dL_bed_66 (by first | rfl | decide) ?_
              refine R_V (pc := 68) (k' := (14, 84)) mok_X9_cell lk_L_96 (sh_k h.1) rfl rfl rfl rfl (aok0 rfl) dL_bed_68 (t_cell h hf (b := 6) (by decide)) (by decide) u2_e rfl (fun Y' q => ?_)
              subst q
              refine G_bipush (pc := 71) (v := nI 108) dL_bed_71 (by first | rfl | decide) ?_
              refine G_icmp_ne (pc := 73) (tgt := 92) dL_bed_73 (by decide) (fun c73 => ?_) (fun c73 => ?_)
              · exact absurd h6 c73
              · skip
                refine G_aload_n (pc := 76) dL_bed_76 rfl ?_
                refine G_iload_n (pc := 77) dL_bed_77 rfl ?_
                refine G_bipush (pc := 78) (v := nI 7) dL_bed_78 (by first | rfl | decide) ?_
                refine R_V (pc := 80) (k' := (16, 96)) mok_X9_cell lk_L_96 (sh_k h.1) rfl rfl rfl rfl (aok0 rfl) dL_bed_80 (t_cell h hf (b := 7) (by decide)) (by decide) u2_e rfl (fun Y' q => ?_)
                subst q
                refine G_iload (pc := 83) dL_bed_83 rfl ?_
                refine G_icmp_ne (pc := 85) (tgt := 92) dL_bed_85 (by decide) (fun c85 => ?_) (fun c85 => ?_)
                · exact absurd h7 c85
                · skip
                  refine G_iconst (pc := 88) (v := nI 1) dL_bed_88 (by first | rfl | decide) ?_
                  refine G_goto (pc := 89) (tgt := 93) dL_bed_89 (by decide) ?_
                  refine G_zret (pc := 93) VZ.n dL_bed_93 rfl (Or.inr rfl) ⟨by decide, by decide⟩ ?_
                  exact ⟨rfl, rfl⟩
theorem C_frame {Γ : GTy} {n : Nat} {Z : HS} {F A : FT} {g : GN} (h : CI n Z F g A) {f : Nat} {on z tu p0 p1 : Int32} (hf : f < g 16 0) (hon : lowF F f = on) (hz : F 116 f = z) (ht : (if F 113 f = nI 2 then -1 else F 111 (2 * f + (F 114 f).toNatClampNeg)) = tu) (hp0 : F 115 (2 * f + 0) = p0) (hp1 : F 115 (2 * f + 1) = p1) (hs : F 113 f = nI 0) (hw : F 117 f = -1) : Tn Γ M_L_frame [.ref 800000, .int (nI f), .int on, .int z, .int tu, .int p0, .int p1] Z (rt (some (.int (nI 1))) Z) := by
  have g20 := h.2.1.1.1.2.2
  refine Tn_of' rfl rfl rfl ?_
  show G Γ M_L_frame (rm M_L_frame) (Vn Γ M_L_frame (rt (some (.int (nI 1))) Z)) (0, 0) 0 [some (.ref 800000), some (.int (nI f)), some (.int on), some (.int z), some (.int tu), some (.int p0), some (.int p1)] [] Z
  have eu : (F 114 f).toNatClampNeg = g 22 f := (cl_of (h.2.1.1.2.2.2.2.1 f hf).1.2.2.2.1.1 (by have := (h.2.1.1.2.2.2.2.1 f hf).1.2.2.2.1.2; omega)).symm
  rw [eu] at ht
  refine G_aload_n (pc := 0) dL_frame_0 rfl ?_
  refine G_iload_n (pc := 1) dL_frame_1 rfl ?_
  refine R_V (pc := 2) (k' := (1, 6)) mok_X9_ballOn lk_L_80 (sh_k h.1) rfl rfl rfl rfl (aok0 rfl) dL_frame_2 (t_ballOn h hf) (by decide) u2_e rfl (fun Y' q => ?_)
  subst q
  refine G_iload_n (pc := 5) dL_frame_5 rfl ?_
  refine G_icmp_ne (pc := 6) (tgt := 71) dL_frame_6 (by decide) (fun c6 => ?_) (fun c6 => ?_)
  · exact absurd hon c6
  · skip
    refine G_aload_n (pc := 9) dL_frame_9 rfl ?_
    refine G_iload_n (pc := 10) dL_frame_10 rfl ?_
    refine R_V (pc := 11) (k' := (2, 12)) mok_X9_isFree lk_L_83 (sh_k h.1) rfl rfl rfl rfl (aok0 rfl) dL_frame_11 (t_isFree h hf) (by decide) u2_e rfl (fun Y' q => ?_)
    subst q
    refine G_iload_n (pc := 14) dL_frame_14 rfl ?_
    refine G_icmp_ne (pc := 15) (tgt := 71) dL_frame_15 (by decide) (fun c15 => ?_) (fun c15 => ?_)
    · exact absurd hz c15
    · skip
      refine G_aload_n (pc := 18) dL_frame_18 rfl ?_
      refine G_iload_n (pc := 19) dL_frame_19 rfl ?_
      refine R_V (pc := 20) (k' := (3, 18)) mok_X9_turn lk_L_86 (sh_k h.1) rfl rfl rfl rfl (aok0 rfl) dL_frame_20 (t_turn h hf) (by decide) u2_e rfl (fun Y' q => ?_)
      subst q
      refine G_iload (pc := 23) dL_frame_23 rfl ?_
      refine G_icmp_ne (pc := 25) (tgt := 71) dL_frame_25 (by decide) (fun c25 => ?_) (fun c25 => ?_)
      · exact absurd ht c25
      · skip
        refine G_aload_n (pc := 28) dL_frame_28 rfl ?_
        refine G_iload_n (pc := 29) dL_frame_29 rfl ?_
        refine G_iconst (pc := 30) (v := nI 0) dL_frame_30 (by first | rfl | decide) ?_
        refine R_V (pc := 31) (k' := (4, 24)) mok_X9_points lk_L_89 (sh_k h.1) rfl rfl rfl rfl (aok0 rfl) dL_frame_31 (t_points h hf (z := nI 0)) (by decide) u2_e rfl (fun Y' q => ?_)
        subst q
        refine G_iload (pc := 34) dL_frame_34 rfl ?_
        refine G_icmp_ne (pc := 36) (tgt := 71) dL_frame_36 (by decide) (fun c36 => ?_) (fun c36 => ?_)
        · exact absurd hp0 c36
        · skip
          refine G_aload_n (pc := 39) dL_frame_39 rfl ?_
          refine G_iload_n (pc := 40) dL_frame_40 rfl ?_
          refine G_iconst (pc := 41) (v := nI 1) dL_frame_41 (by first | rfl | decide) ?_
          refine R_V (pc := 42) (k' := (5, 30)) mok_X9_points lk_L_89 (sh_k h.1) rfl rfl rfl rfl (aok0 rfl) dL_frame_42 (t_points h hf (z := nI 1)) (by decide) u2_e rfl (fun Y' q => ?_)
          subst q
          refine G_iload (pc := 45) dL_frame_45 rfl ?_
          refine G_icmp_ne (pc := 47) (tgt := 71) dL_frame_47 (by decide) (fun c47 => ?_) (fun c47 => ?_)
          · exact absurd hp1 c47
          · skip
            refine G_aload_n (pc := 50) dL_frame_50 rfl ?_
            refine G_iload_n (pc := 51) dL_frame_51 rfl ?_
            refine R_V (pc := 52) (k' := (6, 36)) mok_X9_state lk_L_77 (sh_k h.1) rfl rfl rfl rfl (aok0 rfl) dL_frame_52 (t_state h hf) (by decide) u2_e rfl (fun Y' q => ?_)
            subst q
            refine G_if_ne (pc := 55) (tgt := 71) dL_frame_55 (by decide) (fun c55 => ?_) (fun c55 => ?_)
            · exact absurd hs c55
            · skip
              refine G_aload_n (pc := 58) dL_frame_58 rfl ?_
              refine G_iload_n (pc := 59) dL_frame_59 rfl ?_
              refine R_V (pc := 60) (k' := (7, 42)) mok_X9_winner lk_L_93 (sh_k h.1) rfl rfl rfl rfl (aok0 rfl) dL_frame_60 (t_winner h hf) (by decide) u2_e rfl (fun Y' q => ?_)
              subst q
              refine G_iconst (pc := 63) (v := -1) dL_frame_63 (by first | rfl | decide) ?_
              refine G_icmp_ne (pc := 64) (tgt := 71) dL_frame_64 (by decide) (fun c64 => ?_) (fun c64 => ?_)
              · exact absurd hw c64
              · skip
                refine G_iconst (pc := 67) (v := nI 1) dL_frame_67 (by first | rfl | decide) ?_
                refine G_goto (pc := 68) (tgt := 72) dL_frame_68 (by decide) ?_
                refine G_zret (pc := 72) VZ.n dL_frame_72 rfl (Or.inr rfl) ⟨by decide, by decide⟩ ?_
                exact ⟨rfl, rfl⟩
theorem C_meets {Γ : GTy} {n : Nat} {Z : HS} {F A : FT} {g : GN} (hG : GS Γ) (h : CI n Z F g A) {f d : Nat} {z v : Int32} (hf : f < g 16 0) (d8 : d < 8) (hz : nI 1 ≤ z ∧ z ≤ nI 40) (hv : mShot (thr (thr F (nI 0)) (nI 0)) f d z 23 0 = v) : Tn Γ M_L_meets [.ref 800000, .int (nI f), .int (nI d), .int z, .int v] Z (fun r Z' => r = some (.int (nI 1)) ∧ CI n Z' F g A) := by
  have g20 := h.2.1.1.1.2.2
  refine Tn_of' rfl rfl rfl ?_
  show G Γ M_L_meets (rm M_L_meets) (Vn Γ M_L_meets (fun r Z' => r = some (.int (nI 1)) ∧ CI n Z' F g A)) (0, 0) 0 [some (.ref 800000), some (.int (nI f)), some (.int (nI d)), some (.int z), some (.int v)] [] Z
  refine G_aload_n (pc := 0) dL_meets_0 rfl ?_
  refine G_iload_n (pc := 1) dL_meets_1 rfl ?_
  refine G_iload_n (pc := 2) dL_meets_2 rfl ?_
  refine G_iload_n (pc := 3) dL_meets_3 rfl ?_
  refine R_V (pc := 4) (k' := (3, 18)) mok_X9_contacts lk_L_99 (sh_k h.1) rfl rfl rfl rfl (aok0 rfl) dL_meets_4 (t_contacts hG h hf d8 hz) (by decide) ((mShot_o (by decide)).trans u2_e) rfl (fun Y1 q => ?_)
  skip
  refine G_iload (pc := 7) dL_meets_7 rfl ?_
  refine G_icmp_ne (pc := 9) (tgt := 28) dL_meets_9 (by decide) (fun c9 => ?_) (fun c9 => ?_)
  · exact absurd hv c9
  · skip
    refine G_aload_n (pc := 12) dL_meets_12 rfl ?_
    refine G_iload_n (pc := 13) dL_meets_13 rfl ?_
    refine G_iload_n (pc := 14) dL_meets_14 rfl ?_
    refine G_iload_n (pc := 15) dL_meets_15 rfl ?_
    refine R_V (pc := 16) (k' := (6, 36)) mok_X9_contactsByPairs lk_L_102 (sh_k q.1) rfl rfl rfl rfl (aok0 rfl) dL_meets_16 (t_contactsByPairs hG q hf d8 hz) (by decide) ((mShot_o (by decide)).trans u2_e) rfl (fun Y2 q2 => ?_)
    skip
    refine G_iload (pc := 19) dL_meets_19 rfl ?_
    refine G_icmp_ne (pc := 21) (tgt := 28) dL_meets_21 (by decide) (fun c21 => ?_) (fun c21 => ?_)
    · exact absurd hv c21
    · skip
      refine G_iconst (pc := 24) (v := nI 1) dL_meets_24 (by first | rfl | decide) ?_
      refine G_goto (pc := 25) (tgt := 29) dL_meets_25 (by decide) ?_
      refine G_zret (pc := 29) VZ.n dL_meets_29 rfl (Or.inr rfl) ⟨by decide, by decide⟩ ?_
      exact ⟨rfl, q2⟩
