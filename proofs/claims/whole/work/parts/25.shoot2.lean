-- ===== the model: shoot =====
def wearF (w p : Int32) : Int32 := if w + p / nI 4 + nI 1 ≤ nI 100 then w + p / nI 4 + nI 1 else nI 100
def kF (D : FT) (f i : Nat) : FT := fun s j => if s = 118 ∧ 8 * f ≤ j ∧ j < 8 * f + i then D 119 (j - 8 * f) else D s j
theorem kF_0 (D : FT) (f : Nat) : kF D f 0 = D := by
  funext s j
  exact if_neg (fun h => by omega)
theorem kF_o {D : FT} {f i s j : Nat} (h : s ≠ 118) : kF D f i s j = D s j := if_neg (fun g => h g.1)
theorem kF_s (D : FT) (f i : Nat) : u2 (kF D f i) 118 (8 * f + i) (D 119 i) = kF D f (i + 1) := by
  funext s j
  simp only [u2, kF]
  by_cases h : s = 118 ∧ j = 8 * f + i
  · obtain ⟨rfl, rfl⟩ := h
    rw [if_pos ⟨rfl, rfl⟩, if_pos ⟨rfl, by omega, by omega⟩, show 8 * f + i - 8 * f = i by omega]
  · rw [if_neg h]
    by_cases g : s = 118 ∧ 8 * f ≤ j ∧ j < 8 * f + i
    · rw [if_pos g, if_pos ⟨g.1, g.2.1, by omega⟩]
    · rw [if_neg g, if_neg (fun q => h ⟨q.1, by have := q.2.2; have := q.2.1; by_cases e : j < 8 * f + i; exact absurd ⟨q.1, q.2.1, e⟩ g; omega⟩)]
def mShE (W : FT) (f u : Nat) (on : Int32) : Int32 × FT :=
  if W 119 0 < 0 then mFouls (kF W f 8) f u on else if W 22 0 < 0 then mFouls (kF W f 8) f u on else if W 22 0 = on then mScores (kF W f 8) f u else if W 116 f = 0 then mFouls (kF W f 8) f u on else mScores (kF W f 8) f u
theorem C_shootN0 {Γ : GTy} {Y : HS} (hS : MS Y) (F : FT) {f n d u c c0 : Nat} {z : Int32} (hf : f < n) (hn : F 10 0 = nI n) (n20 : n ≤ 20) (d8 : d < 8) (hz : nI 1 ≤ z ∧ z ≤ nI 40) (hs : F 113 f = 0) (hu : F 114 f = nI u) (u1 : u ≤ 1) (hc : F 111 (2 * f + u) = nI c) (hB : BV F f) (hq : (lastW (fun k => F 107 k = nI (c + 1)) 6) = -1) (c9 : c0 < 128) (hw : fF (kF (mShot (thr (thr F (nI 0)) (nI 0)) f d (forceF (thr (thr F (nI 0)) (nI 0)) c z)) f 8) f 8 119 0 = nI c0) : Tn Γ M_X10_shoot [.ref 900000, .int (nI f), .int (nI d), .int z] (wM Y F) (rt (some (.int (mShE (mShot (thr (thr F (nI 0)) (nI 0)) f d (forceF (thr (thr F (nI 0)) (nI 0)) c z)) f u (lowF F f)).1)) (wM Y (mShE (mShot (thr (thr F (nI 0)) (nI 0)) f d (forceF (thr (thr F (nI 0)) (nI 0)) c z)) f u (lowF F f)).2)) := by
  refine Tn_of' rfl rfl rfl ?_
  show G Γ M_X10_shoot (rm M_X10_shoot) (Vn Γ M_X10_shoot (rt (some (.int (mShE (mShot (thr (thr F (nI 0)) (nI 0)) f d (forceF (thr (thr F (nI 0)) (nI 0)) c z)) f u (lowF F f)).1)) (wM Y (mShE (mShot (thr (thr F (nI 0)) (nI 0)) f d (forceF (thr (thr F (nI 0)) (nI 0)) c z)) f u (lowF F f)).2))) (0, 0) 0 [some (.ref 900000), some (.int (nI f)), some (.int (nI d)), some (.int z), none, none, none, none] [] (wM Y F)
  have loop : ∀ (n9 j : Nat), j + n9 = 8 → G Γ M_X10_shoot (rm M_X10_shoot) (Vn Γ M_X10_shoot (rt (some (.int (mShE (mShot (thr (thr F (nI 0)) (nI 0)) f d (forceF (thr (thr F (nI 0)) (nI 0)) c z)) f u (lowF F f)).1)) (wM Y (mShE (mShot (thr (thr F (nI 0)) (nI 0)) f d (forceF (thr (thr F (nI 0)) (nI 0)) c z)) f u (lowF F f)).2))) (0, 0) 150 [some (.ref 900000), some (.int (nI f)), some (.int (nI d)), some (.int z), some (.int (nI c)), some (.int (lowF F f)), some (.int (-1)), some (.int (nI j))] [] (wM Y (kF (mShot (thr (thr F (nI 0)) (nI 0)) f d (forceF (thr (thr F (nI 0)) (nI 0)) c z)) f j)) := by
    intro n9
    induction n9 with
    | zero =>
      intro j hj
      obtain rfl : j = 8 := by omega
      refine G_iload (pc := 150) dX10_shoot_150 rfl ?_
      refine G_bipush (pc := 152) (v := nI 8) dX10_shoot_152 (by first | rfl | decide) ?_
      refine G_icmp_geN (pc := 154) (tgt := 182) (by omega) (by omega) dX10_shoot_154 (by decide) (fun c154 => ?_) (fun c154 => ?_)
      · skip
        refine G_aload_n (pc := 182) dX10_shoot_182 rfl ?_
        refine M_arr (pc := 183) (a := 1900119) hS fl_X10_63 rfl rfl dX10_shoot_183 ?_
        refine G_iconst (pc := 186) (v := nI 0) dX10_shoot_186 (by first | rfl | decide) ?_
        refine M_ldv (pc := 187) (kk := 19) (j := 0) (v := (mShot (thr (thr F (nI 0)) (nI 0)) f d (forceF (thr (thr F (nI 0)) (nI 0)) c z)) 119 0) (kF_o (by decide)) hS rfl rfl rfl (by decide) dX10_shoot_187 ?_
        refine G_if_lt (pc := 188) (tgt := 216) dX10_shoot_188 (by decide) (fun c188 => ?_) (fun c188 => ?_)
        · skip
          refine G_iconst (pc := 216) (v := nI 1) dX10_shoot_216 (by first | rfl | decide) ?_
          refine G_goto (pc := 217) (tgt := 221) dX10_shoot_217 (by decide) ?_
          refine G_istore (pc := 221) dX10_shoot_221 (by decide) ?_
          refine G_iload (pc := 223) dX10_shoot_223 rfl ?_
          refine G_if_eqN (pc := 225) (tgt := 238) (by omega) dX10_shoot_225 (by decide) (fun h => absurd h (by decide)) (fun _ => ?_)
          refine G_aload_n (pc := 228) dX10_shoot_228 rfl ?_
          refine G_iload_n (pc := 229) dX10_shoot_229 rfl ?_
          refine G_iload (pc := 230) dX10_shoot_230 rfl ?_
          refine K_Vn2r (pc := 232) (k' := (0, 0)) mok_X10_fouls lk_X10_171 hS.1 rfl rfl rfl (aok0 rfl) dX10_shoot_232 (C_fouls hS (kF (mShot (thr (thr F (nI 0)) (nI 0)) f d (forceF (thr (thr F (nI 0)) (nI 0)) c z)) f 8) (by omega) (u := u) ((kF_o (by decide)).trans ((show (mShot (thr (thr F (nI 0)) (nI 0)) f d (forceF (thr (thr F (nI 0)) (nI 0)) c z)) 114 f = F 114 f from mShot_o (by decide)).trans hu)) u1 hw c9) rfl ?_
          refine G_goto (pc := 235) (tgt := 243) dX10_shoot_235 (by decide) ?_
          refine G_iret (pc := 243) VZ.n dX10_shoot_243 rfl ⟨by decide, by decide⟩ ?_
          have e : (mShE (mShot (thr (thr F (nI 0)) (nI 0)) f d (forceF (thr (thr F (nI 0)) (nI 0)) c z)) f u (lowF F f)) = _ := (by first | exact if_pos c188 | exact (if_neg c188).trans (if_pos c195) | exact (if_neg c188).trans ((if_neg c195).trans (if_pos c204)) | exact (if_neg c188).trans ((if_neg c195).trans ((if_neg c204).trans (if_pos c213))) | exact (if_neg c188).trans ((if_neg c195).trans ((if_neg c204).trans (if_neg c213))))
          rw [e]
          exact ⟨rfl, rfl⟩
        · skip
          refine G_aload_n (pc := 191) dX10_shoot_191 rfl ?_
          refine M_getv (pc := 192) (kk := 22) (v := (mShot (thr (thr F (nI 0)) (nI 0)) f d (forceF (thr (thr F (nI 0)) (nI 0)) c z)) 22 0) (kF_o (by decide)) hS fl_X10_125 rfl dX10_shoot_192 ?_
          refine G_if_lt (pc := 195) (tgt := 216) dX10_shoot_195 (by decide) (fun c195 => ?_) (fun c195 => ?_)
          · skip
            refine G_iconst (pc := 216) (v := nI 1) dX10_shoot_216 (by first | rfl | decide) ?_
            refine G_goto (pc := 217) (tgt := 221) dX10_shoot_217 (by decide) ?_
            refine G_istore (pc := 221) dX10_shoot_221 (by decide) ?_
            refine G_iload (pc := 223) dX10_shoot_223 rfl ?_
            refine G_if_eqN (pc := 225) (tgt := 238) (by omega) dX10_shoot_225 (by decide) (fun h => absurd h (by decide)) (fun _ => ?_)
            refine G_aload_n (pc := 228) dX10_shoot_228 rfl ?_
            refine G_iload_n (pc := 229) dX10_shoot_229 rfl ?_
            refine G_iload (pc := 230) dX10_shoot_230 rfl ?_
            refine K_Vn2r (pc := 232) (k' := (0, 0)) mok_X10_fouls lk_X10_171 hS.1 rfl rfl rfl (aok0 rfl) dX10_shoot_232 (C_fouls hS (kF (mShot (thr (thr F (nI 0)) (nI 0)) f d (forceF (thr (thr F (nI 0)) (nI 0)) c z)) f 8) (by omega) (u := u) ((kF_o (by decide)).trans ((show (mShot (thr (thr F (nI 0)) (nI 0)) f d (forceF (thr (thr F (nI 0)) (nI 0)) c z)) 114 f = F 114 f from mShot_o (by decide)).trans hu)) u1 hw c9) rfl ?_
            refine G_goto (pc := 235) (tgt := 243) dX10_shoot_235 (by decide) ?_
            refine G_iret (pc := 243) VZ.n dX10_shoot_243 rfl ⟨by decide, by decide⟩ ?_
            have e : (mShE (mShot (thr (thr F (nI 0)) (nI 0)) f d (forceF (thr (thr F (nI 0)) (nI 0)) c z)) f u (lowF F f)) = _ := (by first | exact if_pos c188 | exact (if_neg c188).trans (if_pos c195) | exact (if_neg c188).trans ((if_neg c195).trans (if_pos c204)) | exact (if_neg c188).trans ((if_neg c195).trans ((if_neg c204).trans (if_pos c213))) | exact (if_neg c188).trans ((if_neg c195).trans ((if_neg c204).trans (if_neg c213))))
            rw [e]
            exact ⟨rfl, rfl⟩
          · skip
            refine G_aload_n (pc := 198) dX10_shoot_198 rfl ?_
            refine M_getv (pc := 199) (kk := 22) (v := (mShot (thr (thr F (nI 0)) (nI 0)) f d (forceF (thr (thr F (nI 0)) (nI 0)) c z)) 22 0) (kF_o (by decide)) hS fl_X10_125 rfl dX10_shoot_199 ?_
            refine G_iload (pc := 202) dX10_shoot_202 rfl ?_
            refine G_icmp_eq (pc := 204) (tgt := 220) dX10_shoot_204 (by decide) (fun c204 => ?_) (fun c204 => ?_)
            · skip
              refine G_iconst (pc := 220) (v := nI 0) dX10_shoot_220 (by first | rfl | decide) ?_
              refine G_istore (pc := 221) dX10_shoot_221 (by decide) ?_
              refine G_iload (pc := 223) dX10_shoot_223 rfl ?_
              refine G_if_eqN (pc := 225) (tgt := 238) (by omega) dX10_shoot_225 (by decide) (fun _ => ?_) (fun h => absurd h (by decide))
              refine G_aload_n (pc := 238) dX10_shoot_238 rfl ?_
              refine G_iload_n (pc := 239) dX10_shoot_239 rfl ?_
              refine K_Vn1r (pc := 240) (k' := (0, 0)) mok_X10_scores lk_X10_174 hS.1 rfl rfl rfl (aok0 rfl) dX10_shoot_240 (C_scores hS (kF (mShot (thr (thr F (nI 0)) (nI 0)) f d (forceF (thr (thr F (nI 0)) (nI 0)) c z)) f 8) (by omega) (u := u) ((kF_o (by decide)).trans ((show (mShot (thr (thr F (nI 0)) (nI 0)) f d (forceF (thr (thr F (nI 0)) (nI 0)) c z)) 114 f = F 114 f from mShot_o (by decide)).trans hu)) u1) rfl ?_
              refine G_iret (pc := 243) VZ.n dX10_shoot_243 rfl ⟨by decide, by decide⟩ ?_
              have e : (mShE (mShot (thr (thr F (nI 0)) (nI 0)) f d (forceF (thr (thr F (nI 0)) (nI 0)) c z)) f u (lowF F f)) = _ := (by first | exact if_pos c188 | exact (if_neg c188).trans (if_pos c195) | exact (if_neg c188).trans ((if_neg c195).trans (if_pos c204)) | exact (if_neg c188).trans ((if_neg c195).trans ((if_neg c204).trans (if_pos c213))) | exact (if_neg c188).trans ((if_neg c195).trans ((if_neg c204).trans (if_neg c213))))
              rw [e]
              exact ⟨rfl, rfl⟩
            · skip
              refine G_aload_n (pc := 207) dX10_shoot_207 rfl ?_
              refine M_arr (pc := 208) (a := 1900116) hS fl_X10_54 rfl rfl dX10_shoot_208 ?_
              refine G_iload_n (pc := 211) dX10_shoot_211 rfl ?_
              refine M_bldv (pc := 212) (kk := 16) (j := f) (v := (mShot (thr (thr F (nI 0)) (nI 0)) f d (forceF (thr (thr F (nI 0)) (nI 0)) c z)) 116 f) (kF_o (by decide)) hS rfl rfl rfl (show f < 20 by omega) dX10_shoot_212 ?_
              refine G_if_ne (pc := 213) (tgt := 220) dX10_shoot_213 (by decide) (fun c213 => ?_) (fun c213 => ?_)
              · skip
                refine G_iconst (pc := 220) (v := nI 0) dX10_shoot_220 (by first | rfl | decide) ?_
                refine G_istore (pc := 221) dX10_shoot_221 (by decide) ?_
                refine G_iload (pc := 223) dX10_shoot_223 rfl ?_
                refine G_if_eqN (pc := 225) (tgt := 238) (by omega) dX10_shoot_225 (by decide) (fun _ => ?_) (fun h => absurd h (by decide))
                refine G_aload_n (pc := 238) dX10_shoot_238 rfl ?_
                refine G_iload_n (pc := 239) dX10_shoot_239 rfl ?_
                refine K_Vn1r (pc := 240) (k' := (0, 0)) mok_X10_scores lk_X10_174 hS.1 rfl rfl rfl (aok0 rfl) dX10_shoot_240 (C_scores hS (kF (mShot (thr (thr F (nI 0)) (nI 0)) f d (forceF (thr (thr F (nI 0)) (nI 0)) c z)) f 8) (by omega) (u := u) ((kF_o (by decide)).trans ((show (mShot (thr (thr F (nI 0)) (nI 0)) f d (forceF (thr (thr F (nI 0)) (nI 0)) c z)) 114 f = F 114 f from mShot_o (by decide)).trans hu)) u1) rfl ?_
                refine G_iret (pc := 243) VZ.n dX10_shoot_243 rfl ⟨by decide, by decide⟩ ?_
                have e : (mShE (mShot (thr (thr F (nI 0)) (nI 0)) f d (forceF (thr (thr F (nI 0)) (nI 0)) c z)) f u (lowF F f)) = _ := (by first | exact if_pos c188 | exact (if_neg c188).trans (if_pos c195) | exact (if_neg c188).trans ((if_neg c195).trans (if_pos c204)) | exact (if_neg c188).trans ((if_neg c195).trans ((if_neg c204).trans (if_pos c213))) | exact (if_neg c188).trans ((if_neg c195).trans ((if_neg c204).trans (if_neg c213))))
                rw [e]
                exact ⟨rfl, rfl⟩
              · skip
                refine G_iconst (pc := 216) (v := nI 1) dX10_shoot_216 (by first | rfl | decide) ?_
                refine G_goto (pc := 217) (tgt := 221) dX10_shoot_217 (by decide) ?_
                refine G_istore (pc := 221) dX10_shoot_221 (by decide) ?_
                refine G_iload (pc := 223) dX10_shoot_223 rfl ?_
                refine G_if_eqN (pc := 225) (tgt := 238) (by omega) dX10_shoot_225 (by decide) (fun h => absurd h (by decide)) (fun _ => ?_)
                refine G_aload_n (pc := 228) dX10_shoot_228 rfl ?_
                refine G_iload_n (pc := 229) dX10_shoot_229 rfl ?_
                refine G_iload (pc := 230) dX10_shoot_230 rfl ?_
                refine K_Vn2r (pc := 232) (k' := (0, 0)) mok_X10_fouls lk_X10_171 hS.1 rfl rfl rfl (aok0 rfl) dX10_shoot_232 (C_fouls hS (kF (mShot (thr (thr F (nI 0)) (nI 0)) f d (forceF (thr (thr F (nI 0)) (nI 0)) c z)) f 8) (by omega) (u := u) ((kF_o (by decide)).trans ((show (mShot (thr (thr F (nI 0)) (nI 0)) f d (forceF (thr (thr F (nI 0)) (nI 0)) c z)) 114 f = F 114 f from mShot_o (by decide)).trans hu)) u1 hw c9) rfl ?_
                refine G_goto (pc := 235) (tgt := 243) dX10_shoot_235 (by decide) ?_
                refine G_iret (pc := 243) VZ.n dX10_shoot_243 rfl ⟨by decide, by decide⟩ ?_
                have e : (mShE (mShot (thr (thr F (nI 0)) (nI 0)) f d (forceF (thr (thr F (nI 0)) (nI 0)) c z)) f u (lowF F f)) = _ := (by first | exact if_pos c188 | exact (if_neg c188).trans (if_pos c195) | exact (if_neg c188).trans ((if_neg c195).trans (if_pos c204)) | exact (if_neg c188).trans ((if_neg c195).trans ((if_neg c204).trans (if_pos c213))) | exact (if_neg c188).trans ((if_neg c195).trans ((if_neg c204).trans (if_neg c213))))
                rw [e]
                exact ⟨rfl, rfl⟩
      · omega
    | succ n9 ih =>
      intro j hj
      have hj9 : j < 8 := by omega
      refine G_iload (pc := 150) dX10_shoot_150 rfl ?_
      refine G_bipush (pc := 152) (v := nI 8) dX10_shoot_152 (by first | rfl | decide) ?_
      refine G_icmp_geN (pc := 154) (tgt := 182) (by omega) (by omega) dX10_shoot_154 (by decide) (fun c154 => ?_) (fun c154 => ?_)
      · omega
      · skip
        refine G_aload_n (pc := 157) dX10_shoot_157 rfl ?_
        refine M_arr (pc := 158) (a := 1900118) hS fl_X10_60 rfl rfl dX10_shoot_158 ?_
        refine G_bipush (pc := 161) (v := nI 8) dX10_shoot_161 (by first | rfl | decide) ?_
        refine G_iload_n (pc := 163) dX10_shoot_163 rfl ?_
        refine G_imulN (pc := 164) dX10_shoot_164 ?_
        refine G_iload (pc := 165) dX10_shoot_165 rfl ?_
        refine G_iaddN (pc := 167) dX10_shoot_167 ?_
        refine G_aload_n (pc := 168) dX10_shoot_168 rfl ?_
        refine M_arr (pc := 169) (a := 1900119) hS fl_X10_63 rfl rfl dX10_shoot_169 ?_
        refine G_iload (pc := 172) dX10_shoot_172 rfl ?_
        refine M_ldv (pc := 174) (kk := 19) (j := j) (v := (mShot (thr (thr F (nI 0)) (nI 0)) f d (forceF (thr (thr F (nI 0)) (nI 0)) c z)) 119 j) (kF_o (by decide)) hS rfl rfl rfl hj9 dX10_shoot_174 ?_
        refine M_st (pc := 175) (kk := 18) (j := 8 * f + j) hS rfl rfl rfl (show 8 * f + j < 160 by omega) dX10_shoot_175 ?_
        refine G_iincN (pc := 176) dX10_shoot_176 rfl (by decide) ?_
        refine G_goto (pc := 179) (tgt := 150) dX10_shoot_179 (by decide) ?_
        have h9 := ih (j + 1) (by omega)
        rw [← kF_s] at h9
        exact h9
  refine G_aload_n (pc := 0) dX10_shoot_0 rfl ?_
  refine G_iload_n (pc := 1) dX10_shoot_1 rfl ?_
  refine K_Vn1r (pc := 2) (k' := (0, 0)) mok_X10_asks lk_X10_160 hS.1 rfl rfl rfl (aok0 rfl) dX10_shoot_2 (C_asksN hS _ hf hn n20) rfl ?_
  refine G_if_neN (pc := 5) (tgt := 10) (by omega) dX10_shoot_5 (by decide) (fun _ => ?_) (fun h => absurd h (by decide))
  refine G_aload_n (pc := 10) dX10_shoot_10 rfl ?_
  refine G_iload_n (pc := 11) dX10_shoot_11 rfl ?_
  refine G_iconst (pc := 12) (v := nI 0) dX10_shoot_12 (by first | rfl | decide) ?_
  refine G_bipush (pc := 13) (v := nI 7) dX10_shoot_13 (by first | rfl | decide) ?_
  refine K_Sn3r (pc := 15) (k' := (0, 0)) mok_X10_isIn lk_X10_75 rfl (aok0 rfl) dX10_shoot_15 (C_isInN (by omega) (by decide) _) rfl ?_
  refine G_if_eqN (pc := 18) (tgt := 31) (by omega) dX10_shoot_18 (by decide) (fun h => absurd h (by decide)) (fun _ => ?_)
  refine G_iload_n (pc := 21) dX10_shoot_21 rfl ?_
  refine G_iconst (pc := 22) (v := nI 1) dX10_shoot_22 (by first | rfl | decide) ?_
  refine G_bipush (pc := 23) (v := nI 40) dX10_shoot_23 (by first | rfl | decide) ?_
  refine K_Sn3r (pc := 25) (k' := (0, 0)) mok_X10_isIn lk_X10_75 rfl (aok0 rfl) dX10_shoot_25 (C_isIn _ _ _ _) rfl ?_
  refine G_if_neB (pc := 28) (tgt := 35) dX10_shoot_28 (by decide) (fun c28 => ?_) (fun c28 => ?_)
  · skip
    refine G_aload_n (pc := 35) dX10_shoot_35 rfl ?_
    refine M_arr (pc := 36) (a := 1900113) hS fl_X10_45 rfl rfl dX10_shoot_36 ?_
    refine G_iload_n (pc := 39) dX10_shoot_39 rfl ?_
    refine M_ldv (pc := 40) (kk := 13) (j := f) (v := F 113 f) rfl hS rfl rfl rfl (show f < 20 by omega) dX10_shoot_40 ?_
    refine G_if_eq (pc := 41) (tgt := 48) dX10_shoot_41 (by decide) (fun c41 => ?_) (fun c41 => ?_)
    · skip
      refine G_iconst (pc := 48) (v := nI 0) dX10_shoot_48 (by first | rfl | decide) ?_
      refine M_put (pc := 49) hS fl_X10_72 fw_9_25 rfl dX10_shoot_49 ?_
      refine G_aload_n (pc := 52) dX10_shoot_52 rfl ?_
      refine M_get (pc := 53) hS fl_X10_72 rfl dX10_shoot_53 ?_
      show G _ _ _ _ _ _ _ (.int (nI 0) :: _) _
      refine G_if_leN (pc := 56) (tgt := 61) (by omega) dX10_shoot_56 (by decide) (fun _ => ?_) (fun h => absurd h (by decide))
      refine G_aload_n (pc := 61) dX10_shoot_61 rfl ?_
      refine M_arr (pc := 62) (a := 1900111) hS fl_X10_39 rfl rfl dX10_shoot_62 ?_
      refine G_iconst (pc := 65) (v := nI 2) dX10_shoot_65 (by first | rfl | decide) ?_
      refine G_iload_n (pc := 66) dX10_shoot_66 rfl ?_
      refine G_imulN (pc := 67) dX10_shoot_67 ?_
      refine G_aload_n (pc := 68) dX10_shoot_68 rfl ?_
      refine M_arr (pc := 69) (a := 1900114) hS fl_X10_48 rfl rfl dX10_shoot_69 ?_
      refine G_iload_n (pc := 72) dX10_shoot_72 rfl ?_
      refine M_ldv (pc := 73) (kk := 14) (j := f) (v := nI u) hu hS rfl rfl rfl (show f < 20 by omega) dX10_shoot_73 ?_
      refine G_iaddN (pc := 74) dX10_shoot_74 ?_
      refine M_ldv (pc := 75) (kk := 11) (j := 2 * f + u) (v := nI c) hc hS rfl rfl rfl (show 2 * f + u < 40 by omega) dX10_shoot_75 ?_
      refine G_istore (pc := 76) dX10_shoot_76 (by decide) ?_
      refine G_aload_n (pc := 78) dX10_shoot_78 rfl ?_
      refine G_iload_n (pc := 79) dX10_shoot_79 rfl ?_
      refine K_Vn1r (pc := 80) (k' := (0, 0)) mok_X10_lowest lk_X10_151 hS.1 rfl rfl rfl (aok0 rfl) dX10_shoot_80 (C_lowest hS _ (by omega)) rfl ?_
      show G _ _ _ _ _ _ _ (.int (lowF F f) :: _) _
      refine G_istore (pc := 83) dX10_shoot_83 (by decide) ?_
      refine G_aload_n (pc := 85) dX10_shoot_85 rfl ?_
      refine G_iload_n (pc := 86) dX10_shoot_86 rfl ?_
      refine G_iload_n (pc := 87) dX10_shoot_87 rfl ?_
      refine G_aload_n (pc := 88) dX10_shoot_88 rfl ?_
      refine G_iload (pc := 89) dX10_shoot_89 rfl ?_
      refine G_iload_n (pc := 91) dX10_shoot_91 rfl ?_
      refine K_Vn2r (pc := 92) (k' := (0, 0)) mok_X10_forceOf lk_X10_163 hS.1 rfl rfl rfl (aok0 rfl) dX10_shoot_92 (C_forceOf hS _ c z) rfl ?_
      refine K_Vn3v (pc := 95) (k' := (0, 0)) mok_X10_shot lk_X10_167 hS.1 rfl rfl rfl (aok0 rfl) dX10_shoot_95 (C_shot hS _ (by omega) d8 (show BV (thr (thr F (nI 0)) (nI 0)) f from hB)) rfl ?_
      show G _ _ _ _ _ _ _ _ (wM Y (mShot (thr (thr F (nI 0)) (nI 0)) f d (forceF (thr (thr F (nI 0)) (nI 0)) c z)))
      refine G_aload_n (pc := 98) dX10_shoot_98 rfl ?_
      refine G_iload (pc := 99) dX10_shoot_99 rfl ?_
      refine K_Vn1r (pc := 101) (k' := (0, 0)) mok_X10_cueWith lk_X10_144 hS.1 rfl rfl rfl (aok0 rfl) dX10_shoot_101 (C_cueWith hS _ c) rfl ?_
      rw [show lastW (fun k => (mShot (thr (thr F (nI 0)) (nI 0)) f d (forceF (thr (thr F (nI 0)) (nI 0)) c z)) 107 k = nI (c + 1)) 6 = _ from (lastW_congr (fun j _ => by rw [show (mShot (thr (thr F (nI 0)) (nI 0)) f d (forceF (thr (thr F (nI 0)) (nI 0)) c z)) 107 j = F 107 j from mShot_o (by decide)])).trans hq]
      refine G_istore (pc := 104) dX10_shoot_104 (by decide) ?_
      refine G_iload (pc := 106) dX10_shoot_106 rfl ?_
      refine G_if_lt (pc := 108) (tgt := 147) dX10_shoot_108 (by decide) (fun _ => ?_) (fun h => absurd h (by decide))
      refine G_iconst (pc := 147) (v := nI 0) dX10_shoot_147 (by first | rfl | decide) ?_
      refine G_istore (pc := 148) dX10_shoot_148 (by decide) ?_
      have h9 := loop 8 0 rfl
      rw [kF_0] at h9
      exact h9
    · exact absurd hs c41
  · exact absurd hz c28
theorem C_shootN1 {Γ : GTy} {Y : HS} (hS : MS Y) (F : FT) {f n d u c v c0 : Nat} {z : Int32} (hf : f < n) (hn : F 10 0 = nI n) (n20 : n ≤ 20) (d8 : d < 8) (hz : nI 1 ≤ z ∧ z ≤ nI 40) (hs : F 113 f = 0) (hu : F 114 f = nI u) (u1 : u ≤ 1) (hc : F 111 (2 * f + u) = nI c) (hB : BV F f) (hq : (lastW (fun k => F 107 k = nI (c + 1)) 6) = nI v) (v6 : v < 6) (c9 : c0 < 128) (hw : fF (kF (u2 (mShot (thr (thr F (nI 0)) (nI 0)) f d (forceF (thr (thr F (nI 0)) (nI 0)) c z)) 108 v (wearF (F 108 v) z)) f 8) f 8 119 0 = nI c0) : Tn Γ M_X10_shoot [.ref 900000, .int (nI f), .int (nI d), .int z] (wM Y F) (rt (some (.int (mShE (u2 (mShot (thr (thr F (nI 0)) (nI 0)) f d (forceF (thr (thr F (nI 0)) (nI 0)) c z)) 108 v (wearF (F 108 v) z)) f u (lowF F f)).1)) (wM Y (mShE (u2 (mShot (thr (thr F (nI 0)) (nI 0)) f d (forceF (thr (thr F (nI 0)) (nI 0)) c z)) 108 v (wearF (F 108 v) z)) f u (lowF F f)).2)) := by
  refine Tn_of' rfl rfl rfl ?_
  show G Γ M_X10_shoot (rm M_X10_shoot) (Vn Γ M_X10_shoot (rt (some (.int (mShE (u2 (mShot (thr (thr F (nI 0)) (nI 0)) f d (forceF (thr (thr F (nI 0)) (nI 0)) c z)) 108 v (wearF (F 108 v) z)) f u (lowF F f)).1)) (wM Y (mShE (u2 (mShot (thr (thr F (nI 0)) (nI 0)) f d (forceF (thr (thr F (nI 0)) (nI 0)) c z)) 108 v (wearF (F 108 v) z)) f u (lowF F f)).2))) (0, 0) 0 [some (.ref 900000), some (.int (nI f)), some (.int (nI d)), some (.int z), none, none, none, none] [] (wM Y F)
  have loop : ∀ (n9 j : Nat), j + n9 = 8 → G Γ M_X10_shoot (rm M_X10_shoot) (Vn Γ M_X10_shoot (rt (some (.int (mShE (u2 (mShot (thr (thr F (nI 0)) (nI 0)) f d (forceF (thr (thr F (nI 0)) (nI 0)) c z)) 108 v (wearF (F 108 v) z)) f u (lowF F f)).1)) (wM Y (mShE (u2 (mShot (thr (thr F (nI 0)) (nI 0)) f d (forceF (thr (thr F (nI 0)) (nI 0)) c z)) 108 v (wearF (F 108 v) z)) f u (lowF F f)).2))) (0, 0) 150 [some (.ref 900000), some (.int (nI f)), some (.int (nI d)), some (.int z), some (.int (nI c)), some (.int (lowF F f)), some (.int (nI v)), some (.int (nI j))] [] (wM Y (kF (u2 (mShot (thr (thr F (nI 0)) (nI 0)) f d (forceF (thr (thr F (nI 0)) (nI 0)) c z)) 108 v (wearF (F 108 v) z)) f j)) := by
    intro n9
    induction n9 with
    | zero =>
      intro j hj
      obtain rfl : j = 8 := by omega
      refine G_iload (pc := 150) dX10_shoot_150 rfl ?_
      refine G_bipush (pc := 152) (v := nI 8) dX10_shoot_152 (by first | rfl | decide) ?_
      refine G_icmp_geN (pc := 154) (tgt := 182) (by omega) (by omega) dX10_shoot_154 (by decide) (fun c154 => ?_) (fun c154 => ?_)
      · skip
        refine G_aload_n (pc := 182) dX10_shoot_182 rfl ?_
        refine M_arr (pc := 183) (a := 1900119) hS fl_X10_63 rfl rfl dX10_shoot_183 ?_
        refine G_iconst (pc := 186) (v := nI 0) dX10_shoot_186 (by first | rfl | decide) ?_
        refine M_ldv (pc := 187) (kk := 19) (j := 0) (v := (u2 (mShot (thr (thr F (nI 0)) (nI 0)) f d (forceF (thr (thr F (nI 0)) (nI 0)) c z)) 108 v (wearF (F 108 v) z)) 119 0) (kF_o (by decide)) hS rfl rfl rfl (by decide) dX10_shoot_187 ?_
        refine G_if_lt (pc := 188) (tgt := 216) dX10_shoot_188 (by decide) (fun c188 => ?_) (fun c188 => ?_)
        · skip
          refine G_iconst (pc := 216) (v := nI 1) dX10_shoot_216 (by first | rfl | decide) ?_
          refine G_goto (pc := 217) (tgt := 221) dX10_shoot_217 (by decide) ?_
          refine G_istore (pc := 221) dX10_shoot_221 (by decide) ?_
          refine G_iload (pc := 223) dX10_shoot_223 rfl ?_
          refine G_if_eqN (pc := 225) (tgt := 238) (by omega) dX10_shoot_225 (by decide) (fun h => absurd h (by decide)) (fun _ => ?_)
          refine G_aload_n (pc := 228) dX10_shoot_228 rfl ?_
          refine G_iload_n (pc := 229) dX10_shoot_229 rfl ?_
          refine G_iload (pc := 230) dX10_shoot_230 rfl ?_
          refine K_Vn2r (pc := 232) (k' := (0, 0)) mok_X10_fouls lk_X10_171 hS.1 rfl rfl rfl (aok0 rfl) dX10_shoot_232 (C_fouls hS (kF (u2 (mShot (thr (thr F (nI 0)) (nI 0)) f d (forceF (thr (thr F (nI 0)) (nI 0)) c z)) 108 v (wearF (F 108 v) z)) f 8) (by omega) (u := u) ((kF_o (by decide)).trans ((show (u2 (mShot (thr (thr F (nI 0)) (nI 0)) f d (forceF (thr (thr F (nI 0)) (nI 0)) c z)) 108 v (wearF (F 108 v) z)) 114 f = F 114 f from mShot_o (by decide)).trans hu)) u1 hw c9) rfl ?_
          refine G_goto (pc := 235) (tgt := 243) dX10_shoot_235 (by decide) ?_
          refine G_iret (pc := 243) VZ.n dX10_shoot_243 rfl ⟨by decide, by decide⟩ ?_
          have e : (mShE (u2 (mShot (thr (thr F (nI 0)) (nI 0)) f d (forceF (thr (thr F (nI 0)) (nI 0)) c z)) 108 v (wearF (F 108 v) z)) f u (lowF F f)) = _ := (by first | exact if_pos c188 | exact (if_neg c188).trans (if_pos c195) | exact (if_neg c188).trans ((if_neg c195).trans (if_pos c204)) | exact (if_neg c188).trans ((if_neg c195).trans ((if_neg c204).trans (if_pos c213))) | exact (if_neg c188).trans ((if_neg c195).trans ((if_neg c204).trans (if_neg c213))))
          rw [e]
          exact ⟨rfl, rfl⟩
        · skip
          refine G_aload_n (pc := 191) dX10_shoot_191 rfl ?_
          refine M_getv (pc := 192) (kk := 22) (v := (u2 (mShot (thr (thr F (nI 0)) (nI 0)) f d (forceF (thr (thr F (nI 0)) (nI 0)) c z)) 108 v (wearF (F 108 v) z)) 22 0) (kF_o (by decide)) hS fl_X10_125 rfl dX10_shoot_192 ?_
          refine G_if_lt (pc := 195) (tgt := 216) dX10_shoot_195 (by decide) (fun c195 => ?_) (fun c195 => ?_)
          · skip
            refine G_iconst (pc := 216) (v := nI 1) dX10_shoot_216 (by first | rfl | decide) ?_
            refine G_goto (pc := 217) (tgt := 221) dX10_shoot_217 (by decide) ?_
            refine G_istore (pc := 221) dX10_shoot_221 (by decide) ?_
            refine G_iload (pc := 223) dX10_shoot_223 rfl ?_
            refine G_if_eqN (pc := 225) (tgt := 238) (by omega) dX10_shoot_225 (by decide) (fun h => absurd h (by decide)) (fun _ => ?_)
            refine G_aload_n (pc := 228) dX10_shoot_228 rfl ?_
            refine G_iload_n (pc := 229) dX10_shoot_229 rfl ?_
            refine G_iload (pc := 230) dX10_shoot_230 rfl ?_
            refine K_Vn2r (pc := 232) (k' := (0, 0)) mok_X10_fouls lk_X10_171 hS.1 rfl rfl rfl (aok0 rfl) dX10_shoot_232 (C_fouls hS (kF (u2 (mShot (thr (thr F (nI 0)) (nI 0)) f d (forceF (thr (thr F (nI 0)) (nI 0)) c z)) 108 v (wearF (F 108 v) z)) f 8) (by omega) (u := u) ((kF_o (by decide)).trans ((show (u2 (mShot (thr (thr F (nI 0)) (nI 0)) f d (forceF (thr (thr F (nI 0)) (nI 0)) c z)) 108 v (wearF (F 108 v) z)) 114 f = F 114 f from mShot_o (by decide)).trans hu)) u1 hw c9) rfl ?_
            refine G_goto (pc := 235) (tgt := 243) dX10_shoot_235 (by decide) ?_
            refine G_iret (pc := 243) VZ.n dX10_shoot_243 rfl ⟨by decide, by decide⟩ ?_
            have e : (mShE (u2 (mShot (thr (thr F (nI 0)) (nI 0)) f d (forceF (thr (thr F (nI 0)) (nI 0)) c z)) 108 v (wearF (F 108 v) z)) f u (lowF F f)) = _ := (by first | exact if_pos c188 | exact (if_neg c188).trans (if_pos c195) | exact (if_neg c188).trans ((if_neg c195).trans (if_pos c204)) | exact (if_neg c188).trans ((if_neg c195).trans ((if_neg c204).trans (if_pos c213))) | exact (if_neg c188).trans ((if_neg c195).trans ((if_neg c204).trans (if_neg c213))))
            rw [e]
            exact ⟨rfl, rfl⟩
          · skip
            refine G_aload_n (pc := 198) dX10_shoot_198 rfl ?_
            refine M_getv (pc := 199) (kk := 22) (v := (u2 (mShot (thr (thr F (nI 0)) (nI 0)) f d (forceF (thr (thr F (nI 0)) (nI 0)) c z)) 108 v (wearF (F 108 v) z)) 22 0) (kF_o (by decide)) hS fl_X10_125 rfl dX10_shoot_199 ?_
            refine G_iload (pc := 202) dX10_shoot_202 rfl ?_
            refine G_icmp_eq (pc := 204) (tgt := 220) dX10_shoot_204 (by decide) (fun c204 => ?_) (fun c204 => ?_)
            · skip
              refine G_iconst (pc := 220) (v := nI 0) dX10_shoot_220 (by first | rfl | decide) ?_
              refine G_istore (pc := 221) dX10_shoot_221 (by decide) ?_
              refine G_iload (pc := 223) dX10_shoot_223 rfl ?_
              refine G_if_eqN (pc := 225) (tgt := 238) (by omega) dX10_shoot_225 (by decide) (fun _ => ?_) (fun h => absurd h (by decide))
              refine G_aload_n (pc := 238) dX10_shoot_238 rfl ?_
              refine G_iload_n (pc := 239) dX10_shoot_239 rfl ?_
              refine K_Vn1r (pc := 240) (k' := (0, 0)) mok_X10_scores lk_X10_174 hS.1 rfl rfl rfl (aok0 rfl) dX10_shoot_240 (C_scores hS (kF (u2 (mShot (thr (thr F (nI 0)) (nI 0)) f d (forceF (thr (thr F (nI 0)) (nI 0)) c z)) 108 v (wearF (F 108 v) z)) f 8) (by omega) (u := u) ((kF_o (by decide)).trans ((show (u2 (mShot (thr (thr F (nI 0)) (nI 0)) f d (forceF (thr (thr F (nI 0)) (nI 0)) c z)) 108 v (wearF (F 108 v) z)) 114 f = F 114 f from mShot_o (by decide)).trans hu)) u1) rfl ?_
              refine G_iret (pc := 243) VZ.n dX10_shoot_243 rfl ⟨by decide, by decide⟩ ?_
              have e : (mShE (u2 (mShot (thr (thr F (nI 0)) (nI 0)) f d (forceF (thr (thr F (nI 0)) (nI 0)) c z)) 108 v (wearF (F 108 v) z)) f u (lowF F f)) = _ := (by first | exact if_pos c188 | exact (if_neg c188).trans (if_pos c195) | exact (if_neg c188).trans ((if_neg c195).trans (if_pos c204)) | exact (if_neg c188).trans ((if_neg c195).trans ((if_neg c204).trans (if_pos c213))) | exact (if_neg c188).trans ((if_neg c195).trans ((if_neg c204).trans (if_neg c213))))
              rw [e]
              exact ⟨rfl, rfl⟩
            · skip
              refine G_aload_n (pc := 207) dX10_shoot_207 rfl ?_
              refine M_arr (pc := 208) (a := 1900116) hS fl_X10_54 rfl rfl dX10_shoot_208 ?_
              refine G_iload_n (pc := 211) dX10_shoot_211 rfl ?_
              refine M_bldv (pc := 212) (kk := 16) (j := f) (v := (u2 (mShot (thr (thr F (nI 0)) (nI 0)) f d (forceF (thr (thr F (nI 0)) (nI 0)) c z)) 108 v (wearF (F 108 v) z)) 116 f) (kF_o (by decide)) hS rfl rfl rfl (show f < 20 by omega) dX10_shoot_212 ?_
              refine G_if_ne (pc := 213) (tgt := 220) dX10_shoot_213 (by decide) (fun c213 => ?_) (fun c213 => ?_)
              · skip
                refine G_iconst (pc := 220) (v := nI 0) dX10_shoot_220 (by first | rfl | decide) ?_
                refine G_istore (pc := 221) dX10_shoot_221 (by decide) ?_
                refine G_iload (pc := 223) dX10_shoot_223 rfl ?_
                refine G_if_eqN (pc := 225) (tgt := 238) (by omega) dX10_shoot_225 (by decide) (fun _ => ?_) (fun h => absurd h (by decide))
                refine G_aload_n (pc := 238) dX10_shoot_238 rfl ?_
                refine G_iload_n (pc := 239) dX10_shoot_239 rfl ?_
                refine K_Vn1r (pc := 240) (k' := (0, 0)) mok_X10_scores lk_X10_174 hS.1 rfl rfl rfl (aok0 rfl) dX10_shoot_240 (C_scores hS (kF (u2 (mShot (thr (thr F (nI 0)) (nI 0)) f d (forceF (thr (thr F (nI 0)) (nI 0)) c z)) 108 v (wearF (F 108 v) z)) f 8) (by omega) (u := u) ((kF_o (by decide)).trans ((show (u2 (mShot (thr (thr F (nI 0)) (nI 0)) f d (forceF (thr (thr F (nI 0)) (nI 0)) c z)) 108 v (wearF (F 108 v) z)) 114 f = F 114 f from mShot_o (by decide)).trans hu)) u1) rfl ?_
                refine G_iret (pc := 243) VZ.n dX10_shoot_243 rfl ⟨by decide, by decide⟩ ?_
                have e : (mShE (u2 (mShot (thr (thr F (nI 0)) (nI 0)) f d (forceF (thr (thr F (nI 0)) (nI 0)) c z)) 108 v (wearF (F 108 v) z)) f u (lowF F f)) = _ := (by first | exact if_pos c188 | exact (if_neg c188).trans (if_pos c195) | exact (if_neg c188).trans ((if_neg c195).trans (if_pos c204)) | exact (if_neg c188).trans ((if_neg c195).trans ((if_neg c204).trans (if_pos c213))) | exact (if_neg c188).trans ((if_neg c195).trans ((if_neg c204).trans (if_neg c213))))
                rw [e]
                exact ⟨rfl, rfl⟩
              · skip
                refine G_iconst (pc := 216) (v := nI 1) dX10_shoot_216 (by first | rfl | decide) ?_
                refine G_goto (pc := 217) (tgt := 221) dX10_shoot_217 (by decide) ?_
                refine G_istore (pc := 221) dX10_shoot_221 (by decide) ?_
                refine G_iload (pc := 223) dX10_shoot_223 rfl ?_
                refine G_if_eqN (pc := 225) (tgt := 238) (by omega) dX10_shoot_225 (by decide) (fun h => absurd h (by decide)) (fun _ => ?_)
                refine G_aload_n (pc := 228) dX10_shoot_228 rfl ?_
                refine G_iload_n (pc := 229) dX10_shoot_229 rfl ?_
                refine G_iload (pc := 230) dX10_shoot_230 rfl ?_
                refine K_Vn2r (pc := 232) (k' := (0, 0)) mok_X10_fouls lk_X10_171 hS.1 rfl rfl rfl (aok0 rfl) dX10_shoot_232 (C_fouls hS (kF (u2 (mShot (thr (thr F (nI 0)) (nI 0)) f d (forceF (thr (thr F (nI 0)) (nI 0)) c z)) 108 v (wearF (F 108 v) z)) f 8) (by omega) (u := u) ((kF_o (by decide)).trans ((show (u2 (mShot (thr (thr F (nI 0)) (nI 0)) f d (forceF (thr (thr F (nI 0)) (nI 0)) c z)) 108 v (wearF (F 108 v) z)) 114 f = F 114 f from mShot_o (by decide)).trans hu)) u1 hw c9) rfl ?_
                refine G_goto (pc := 235) (tgt := 243) dX10_shoot_235 (by decide) ?_
                refine G_iret (pc := 243) VZ.n dX10_shoot_243 rfl ⟨by decide, by decide⟩ ?_
                have e : (mShE (u2 (mShot (thr (thr F (nI 0)) (nI 0)) f d (forceF (thr (thr F (nI 0)) (nI 0)) c z)) 108 v (wearF (F 108 v) z)) f u (lowF F f)) = _ := (by first | exact if_pos c188 | exact (if_neg c188).trans (if_pos c195) | exact (if_neg c188).trans ((if_neg c195).trans (if_pos c204)) | exact (if_neg c188).trans ((if_neg c195).trans ((if_neg c204).trans (if_pos c213))) | exact (if_neg c188).trans ((if_neg c195).trans ((if_neg c204).trans (if_neg c213))))
                rw [e]
                exact ⟨rfl, rfl⟩
      · omega
    | succ n9 ih =>
      intro j hj
      have hj9 : j < 8 := by omega
      refine G_iload (pc := 150) dX10_shoot_150 rfl ?_
      refine G_bipush (pc := 152) (v := nI 8) dX10_shoot_152 (by first | rfl | decide) ?_
      refine G_icmp_geN (pc := 154) (tgt := 182) (by omega) (by omega) dX10_shoot_154 (by decide) (fun c154 => ?_) (fun c154 => ?_)
      · omega
      · skip
        refine G_aload_n (pc := 157) dX10_shoot_157 rfl ?_
        refine M_arr (pc := 158) (a := 1900118) hS fl_X10_60 rfl rfl dX10_shoot_158 ?_
        refine G_bipush (pc := 161) (v := nI 8) dX10_shoot_161 (by first | rfl | decide) ?_
        refine G_iload_n (pc := 163) dX10_shoot_163 rfl ?_
        refine G_imulN (pc := 164) dX10_shoot_164 ?_
        refine G_iload (pc := 165) dX10_shoot_165 rfl ?_
        refine G_iaddN (pc := 167) dX10_shoot_167 ?_
        refine G_aload_n (pc := 168) dX10_shoot_168 rfl ?_
        refine M_arr (pc := 169) (a := 1900119) hS fl_X10_63 rfl rfl dX10_shoot_169 ?_
        refine G_iload (pc := 172) dX10_shoot_172 rfl ?_
        refine M_ldv (pc := 174) (kk := 19) (j := j) (v := (u2 (mShot (thr (thr F (nI 0)) (nI 0)) f d (forceF (thr (thr F (nI 0)) (nI 0)) c z)) 108 v (wearF (F 108 v) z)) 119 j) (kF_o (by decide)) hS rfl rfl rfl hj9 dX10_shoot_174 ?_
        refine M_st (pc := 175) (kk := 18) (j := 8 * f + j) hS rfl rfl rfl (show 8 * f + j < 160 by omega) dX10_shoot_175 ?_
        refine G_iincN (pc := 176) dX10_shoot_176 rfl (by decide) ?_
        refine G_goto (pc := 179) (tgt := 150) dX10_shoot_179 (by decide) ?_
        have h9 := ih (j + 1) (by omega)
        rw [← kF_s] at h9
        exact h9
  refine G_aload_n (pc := 0) dX10_shoot_0 rfl ?_
  refine G_iload_n (pc := 1) dX10_shoot_1 rfl ?_
  refine K_Vn1r (pc := 2) (k' := (0, 0)) mok_X10_asks lk_X10_160 hS.1 rfl rfl rfl (aok0 rfl) dX10_shoot_2 (C_asksN hS _ hf hn n20) rfl ?_
  refine G_if_neN (pc := 5) (tgt := 10) (by omega) dX10_shoot_5 (by decide) (fun _ => ?_) (fun h => absurd h (by decide))
  refine G_aload_n (pc := 10) dX10_shoot_10 rfl ?_
  refine G_iload_n (pc := 11) dX10_shoot_11 rfl ?_
  refine G_iconst (pc := 12) (v := nI 0) dX10_shoot_12 (by first | rfl | decide) ?_
  refine G_bipush (pc := 13) (v := nI 7) dX10_shoot_13 (by first | rfl | decide) ?_
  refine K_Sn3r (pc := 15) (k' := (0, 0)) mok_X10_isIn lk_X10_75 rfl (aok0 rfl) dX10_shoot_15 (C_isInN (by omega) (by decide) _) rfl ?_
  refine G_if_eqN (pc := 18) (tgt := 31) (by omega) dX10_shoot_18 (by decide) (fun h => absurd h (by decide)) (fun _ => ?_)
  refine G_iload_n (pc := 21) dX10_shoot_21 rfl ?_
  refine G_iconst (pc := 22) (v := nI 1) dX10_shoot_22 (by first | rfl | decide) ?_
  refine G_bipush (pc := 23) (v := nI 40) dX10_shoot_23 (by first | rfl | decide) ?_
  refine K_Sn3r (pc := 25) (k' := (0, 0)) mok_X10_isIn lk_X10_75 rfl (aok0 rfl) dX10_shoot_25 (C_isIn _ _ _ _) rfl ?_
  refine G_if_neB (pc := 28) (tgt := 35) dX10_shoot_28 (by decide) (fun c28 => ?_) (fun c28 => ?_)
  · skip
    refine G_aload_n (pc := 35) dX10_shoot_35 rfl ?_
    refine M_arr (pc := 36) (a := 1900113) hS fl_X10_45 rfl rfl dX10_shoot_36 ?_
    refine G_iload_n (pc := 39) dX10_shoot_39 rfl ?_
    refine M_ldv (pc := 40) (kk := 13) (j := f) (v := F 113 f) rfl hS rfl rfl rfl (show f < 20 by omega) dX10_shoot_40 ?_
    refine G_if_eq (pc := 41) (tgt := 48) dX10_shoot_41 (by decide) (fun c41 => ?_) (fun c41 => ?_)
    · skip
      refine G_iconst (pc := 48) (v := nI 0) dX10_shoot_48 (by first | rfl | decide) ?_
      refine M_put (pc := 49) hS fl_X10_72 fw_9_25 rfl dX10_shoot_49 ?_
      refine G_aload_n (pc := 52) dX10_shoot_52 rfl ?_
      refine M_get (pc := 53) hS fl_X10_72 rfl dX10_shoot_53 ?_
      show G _ _ _ _ _ _ _ (.int (nI 0) :: _) _
      refine G_if_leN (pc := 56) (tgt := 61) (by omega) dX10_shoot_56 (by decide) (fun _ => ?_) (fun h => absurd h (by decide))
      refine G_aload_n (pc := 61) dX10_shoot_61 rfl ?_
      refine M_arr (pc := 62) (a := 1900111) hS fl_X10_39 rfl rfl dX10_shoot_62 ?_
      refine G_iconst (pc := 65) (v := nI 2) dX10_shoot_65 (by first | rfl | decide) ?_
      refine G_iload_n (pc := 66) dX10_shoot_66 rfl ?_
      refine G_imulN (pc := 67) dX10_shoot_67 ?_
      refine G_aload_n (pc := 68) dX10_shoot_68 rfl ?_
      refine M_arr (pc := 69) (a := 1900114) hS fl_X10_48 rfl rfl dX10_shoot_69 ?_
      refine G_iload_n (pc := 72) dX10_shoot_72 rfl ?_
      refine M_ldv (pc := 73) (kk := 14) (j := f) (v := nI u) hu hS rfl rfl rfl (show f < 20 by omega) dX10_shoot_73 ?_
      refine G_iaddN (pc := 74) dX10_shoot_74 ?_
      refine M_ldv (pc := 75) (kk := 11) (j := 2 * f + u) (v := nI c) hc hS rfl rfl rfl (show 2 * f + u < 40 by omega) dX10_shoot_75 ?_
      refine G_istore (pc := 76) dX10_shoot_76 (by decide) ?_
      refine G_aload_n (pc := 78) dX10_shoot_78 rfl ?_
      refine G_iload_n (pc := 79) dX10_shoot_79 rfl ?_
      refine K_Vn1r (pc := 80) (k' := (0, 0)) mok_X10_lowest lk_X10_151 hS.1 rfl rfl rfl (aok0 rfl) dX10_shoot_80 (C_lowest hS _ (by omega)) rfl ?_
      show G _ _ _ _ _ _ _ (.int (lowF F f) :: _) _
      refine G_istore (pc := 83) dX10_shoot_83 (by decide) ?_
      refine G_aload_n (pc := 85) dX10_shoot_85 rfl ?_
      refine G_iload_n (pc := 86) dX10_shoot_86 rfl ?_
      refine G_iload_n (pc := 87) dX10_shoot_87 rfl ?_
      refine G_aload_n (pc := 88) dX10_shoot_88 rfl ?_
      refine G_iload (pc := 89) dX10_shoot_89 rfl ?_
      refine G_iload_n (pc := 91) dX10_shoot_91 rfl ?_
      refine K_Vn2r (pc := 92) (k' := (0, 0)) mok_X10_forceOf lk_X10_163 hS.1 rfl rfl rfl (aok0 rfl) dX10_shoot_92 (C_forceOf hS _ c z) rfl ?_
      refine K_Vn3v (pc := 95) (k' := (0, 0)) mok_X10_shot lk_X10_167 hS.1 rfl rfl rfl (aok0 rfl) dX10_shoot_95 (C_shot hS _ (by omega) d8 (show BV (thr (thr F (nI 0)) (nI 0)) f from hB)) rfl ?_
      show G _ _ _ _ _ _ _ _ (wM Y (mShot (thr (thr F (nI 0)) (nI 0)) f d (forceF (thr (thr F (nI 0)) (nI 0)) c z)))
      refine G_aload_n (pc := 98) dX10_shoot_98 rfl ?_
      refine G_iload (pc := 99) dX10_shoot_99 rfl ?_
      refine K_Vn1r (pc := 101) (k' := (0, 0)) mok_X10_cueWith lk_X10_144 hS.1 rfl rfl rfl (aok0 rfl) dX10_shoot_101 (C_cueWith hS _ c) rfl ?_
      rw [show lastW (fun k => (mShot (thr (thr F (nI 0)) (nI 0)) f d (forceF (thr (thr F (nI 0)) (nI 0)) c z)) 107 k = nI (c + 1)) 6 = _ from (lastW_congr (fun j _ => by rw [show (mShot (thr (thr F (nI 0)) (nI 0)) f d (forceF (thr (thr F (nI 0)) (nI 0)) c z)) 107 j = F 107 j from mShot_o (by decide)])).trans hq]
      refine G_istore (pc := 104) dX10_shoot_104 (by decide) ?_
      refine G_iload (pc := 106) dX10_shoot_106 rfl ?_
      refine G_if_ltN (pc := 108) (tgt := 147) (by omega) dX10_shoot_108 (by decide) (fun c108 => ?_) (fun c108 => ?_)
      · omega
      · skip
        refine G_aload_n (pc := 111) dX10_shoot_111 rfl ?_
        refine M_arr (pc := 112) (a := 1900108) hS fl_X10_33 rfl rfl dX10_shoot_112 ?_
        refine G_iload (pc := 115) dX10_shoot_115 rfl ?_
        refine M_ldv (pc := 117) (kk := 8) (j := v) (v := F 108 v) (mShot_o (by decide)) hS rfl rfl rfl (show v < 6 by omega) dX10_shoot_117 ?_
        refine G_iload_n (pc := 118) dX10_shoot_118 rfl ?_
        refine G_iconst (pc := 119) (v := nI 4) dX10_shoot_119 (by first | rfl | decide) ?_
        refine G_idiv (pc := 120) dX10_shoot_120 (by decide) ?_
        refine G_iadd (pc := 121) dX10_shoot_121 ?_
        refine G_iconst (pc := 122) (v := nI 1) dX10_shoot_122 (by first | rfl | decide) ?_
        refine G_iadd (pc := 123) dX10_shoot_123 ?_
        refine G_istore (pc := 124) dX10_shoot_124 (by decide) ?_
        refine G_aload_n (pc := 126) dX10_shoot_126 rfl ?_
        refine M_arr (pc := 127) (a := 1900108) hS fl_X10_33 rfl rfl dX10_shoot_127 ?_
        refine G_iload (pc := 130) dX10_shoot_130 rfl ?_
        refine G_iload (pc := 132) dX10_shoot_132 rfl ?_
        refine G_bipush (pc := 134) (v := nI 100) dX10_shoot_134 (by first | rfl | decide) ?_
        refine G_icmp_le (pc := 136) (tgt := 144) dX10_shoot_136 (by decide) (fun c136 => ?_) (fun c136 => ?_)
        · skip
          refine G_iload (pc := 144) dX10_shoot_144 rfl ?_
          refine M_st (pc := 146) (kk := 8) (j := v) hS rfl rfl rfl (show v < 6 by omega) dX10_shoot_146 ?_
          refine G_iconst (pc := 147) (v := nI 0) dX10_shoot_147 (by first | rfl | decide) ?_
          refine G_istore (pc := 148) dX10_shoot_148 (by decide) ?_
          have e : wearF (F 108 v) z = _ := (by first | exact if_pos c136 | exact if_neg c136)
          have h9 := loop 8 0 rfl
          rw [kF_0] at h9
          first
            | (rw [← e]; exact h9)
            | (rw [e] at h9; exact h9)
        · skip
          refine G_bipush (pc := 139) (v := nI 100) dX10_shoot_139 (by first | rfl | decide) ?_
          refine G_goto (pc := 141) (tgt := 146) dX10_shoot_141 (by decide) ?_
          refine M_st (pc := 146) (kk := 8) (j := v) hS rfl rfl rfl (show v < 6 by omega) dX10_shoot_146 ?_
          refine G_iconst (pc := 147) (v := nI 0) dX10_shoot_147 (by first | rfl | decide) ?_
          refine G_istore (pc := 148) dX10_shoot_148 (by decide) ?_
          have e : wearF (F 108 v) z = _ := (by first | exact if_pos c136 | exact if_neg c136)
          have h9 := loop 8 0 rfl
          rw [kF_0] at h9
          first
            | (rw [← e]; exact h9)
            | (rw [e] at h9; exact h9)
    · exact absurd hs c41
  · exact absurd hz c28
