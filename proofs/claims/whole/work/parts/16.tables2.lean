-- ===== the model: tables =====
section GM2
variable {Γ : GTy} {μ : MTy} {R : Room} {W : WTy} {k : Nat × Nat} {pc : Nat} {L : List (Option Value)} {st : List Value} {Y : HS} {F : FT}
theorem M_ldv {kk a j : Nat} {i v : Int32} (hv : F (100 + kk) j = v) (hS : MS Y) (hr : (Nat.blt kk 26 && (rf 9 kk && Nat.beq (mk9 (100 + kk)) 10)) = true) (ha : 1900000 + (100 + kk) = a) (hi : i = nI j) (hj : j < ml9 (100 + kk)) (hd : decode (mC μ) pc = .ok (.iaload, 1)) (kt : G Γ μ R W k (pc + 1) L (.int v :: st) (wM Y F)) : G Γ μ R W k pc L (.int i :: .ref a :: st) (wM Y F) :=
  M_ld hS hr ha hi hj hd (by rw [hv]; exact kt)
theorem M_bldv {kk a j : Nat} {i v : Int32} (hv : F (100 + kk) j = v) (hS : MS Y) (hr : (Nat.blt kk 26 && (rf 9 kk && Nat.beq (mk9 (100 + kk)) 11)) = true) (ha : 1900000 + (100 + kk) = a) (hi : i = nI j) (hj : j < ml9 (100 + kk)) (hd : decode (mC μ) pc = .ok (.baload, 1)) (kt : G Γ μ R W k (pc + 1) L (.int v :: st) (wM Y F)) : G Γ μ R W k pc L (.int i :: .ref a :: st) (wM Y F) :=
  M_bld hS hr ha hi hj hd (by rw [hv]; exact kt)
end GM2
theorem C_isInN {Γ : GTy} {a n : Nat} (h : a ≤ n) (hn : n < 2 ^ 31) (Y : HS) : Tn Γ M_X10_isIn [.int (nI a), .int (nI 0), .int (nI n)] Y (rt (some (.int (nI 1))) Y) := by
  have h9 := C_isIn (Γ := Γ) (nI a) (nI 0) (nI n) Y
  rw [b2_t (inN h hn)] at h9
  exact h9
theorem C_isTableN {Γ : GTy} {a : Nat} (h : a < 4) (Y : HS) : Tn Γ M_X10_isTable [.int (nI a)] Y (rt (some (.int (nI 1))) Y) := by
  have h9 := C_isTable (Γ := Γ) (nI a) Y
  rw [b2_t (inN (by omega) (by decide))] at h9
  exact h9
theorem C_isCustomerN {Γ : GTy} {a : Nat} (h : a < 8) (Y : HS) : Tn Γ M_X10_isCustomer [.int (nI a)] Y (rt (some (.int (nI 1))) Y) := by
  have h9 := C_isCustomer (Γ := Γ) (nI a) Y
  rw [b2_t (inN (by omega) (by decide))] at h9
  exact h9
theorem C_isCueN {Γ : GTy} {a : Nat} (h : a < 6) (Y : HS) : Tn Γ M_X10_isCue [.int (nI a)] Y (rt (some (.int (nI 1))) Y) := by
  have h9 := C_isCue (Γ := Γ) (nI a) Y
  rw [b2_t (inN (by omega) (by decide))] at h9
  exact h9
theorem C_asksTableN {Γ : GTy} {Y : HS} (hS : MS Y) (F : FT) {t : Nat} (ht : t < 4) : Tn Γ M_X10_asksTable [.ref 900000, .int (nI t)] (wM Y F) (rt (some (.int (nI 1))) (wM Y (thr F (nI 0)))) := by
  refine Tn_of' rfl rfl rfl ?_
  show G Γ M_X10_asksTable (rm M_X10_asksTable) (Vn Γ M_X10_asksTable (rt (some (.int (nI 1))) (wM Y (thr F (nI 0))))) (0, 0) 0 [some (.ref 900000), some (.int (nI t))] [] (wM Y F)
  refine G_aload_n (pc := 0) dX10_asksTable_0 rfl ?_
  refine G_iload_n (pc := 1) dX10_asksTable_1 rfl ?_
  refine K_Sn1r (pc := 2) (k' := (0, 0)) mok_X10_isTable lk_X10_79 rfl (aok0 rfl) dX10_asksTable_2 (C_isTableN ht _) rfl ?_
  refine G_if_eqN (pc := 5) (tgt := 12) (by omega) dX10_asksTable_5 (by decide) (fun h => absurd h (by decide)) (fun _ => ?_)
  refine G_iconst (pc := 8) (v := nI 0) dX10_asksTable_8 (by first | rfl | decide) ?_
  refine G_goto (pc := 9) (tgt := 13) dX10_asksTable_9 (by decide) ?_
  refine M_put (pc := 13) hS fl_X10_72 fw_9_25 rfl dX10_asksTable_13 ?_
  refine G_aload_n (pc := 16) dX10_asksTable_16 rfl ?_
  refine M_get (pc := 17) hS fl_X10_72 rfl dX10_asksTable_17 ?_
  show G _ _ _ _ _ _ _ (.int (nI 0) :: _) _
  refine G_if_neN (pc := 20) (tgt := 27) (by omega) dX10_asksTable_20 (by decide) (fun h => absurd h (by decide)) (fun _ => ?_)
  refine G_iconst (pc := 23) (v := nI 1) dX10_asksTable_23 (by first | rfl | decide) ?_
  refine G_goto (pc := 24) (tgt := 28) dX10_asksTable_24 (by decide) ?_
  refine G_zret (pc := 28) VZ.n dX10_asksTable_28 rfl (by first | exact Or.inl rfl | exact Or.inr rfl | exact b2_or _ | assumption) ⟨by decide, by decide⟩ ?_
  exact ⟨rfl, rfl⟩
theorem C_asksTableX {Γ : GTy} {Y : HS} (hS : MS Y) (F : FT) {x : Int32} (hx : ¬ (nI 0 ≤ x ∧ x ≤ nI 3)) : Tn Γ M_X10_asksTable [.ref 900000, .int x] (wM Y F) (rt (some (.int (nI 0))) (wM Y (thr F (nI 1)))) := by
  refine Tn_of' rfl rfl rfl ?_
  show G Γ M_X10_asksTable (rm M_X10_asksTable) (Vn Γ M_X10_asksTable (rt (some (.int (nI 0))) (wM Y (thr F (nI 1))))) (0, 0) 0 [some (.ref 900000), some (.int x)] [] (wM Y F)
  refine G_aload_n (pc := 0) dX10_asksTable_0 rfl ?_
  refine G_iload_n (pc := 1) dX10_asksTable_1 rfl ?_
  refine K_Sn1r (pc := 2) (k' := (0, 0)) mok_X10_isTable lk_X10_79 rfl (aok0 rfl) dX10_asksTable_2 (C_isTable _ _) rfl ?_
  refine G_if_eqB (pc := 5) (tgt := 12) dX10_asksTable_5 (by decide) (fun c5 => ?_) (fun c5 => ?_)
  · skip
    refine G_iconst (pc := 12) (v := nI 1) dX10_asksTable_12 (by first | rfl | decide) ?_
    refine M_put (pc := 13) hS fl_X10_72 fw_9_25 rfl dX10_asksTable_13 ?_
    refine G_aload_n (pc := 16) dX10_asksTable_16 rfl ?_
    refine M_get (pc := 17) hS fl_X10_72 rfl dX10_asksTable_17 ?_
    show G _ _ _ _ _ _ _ (.int (nI 1) :: _) _
    refine G_if_neN (pc := 20) (tgt := 27) (by omega) dX10_asksTable_20 (by decide) (fun _ => ?_) (fun h => absurd h (by decide))
    refine G_iconst (pc := 27) (v := nI 0) dX10_asksTable_27 (by first | rfl | decide) ?_
    refine G_zret (pc := 28) VZ.n dX10_asksTable_28 rfl (by first | exact Or.inl rfl | exact Or.inr rfl | exact b2_or _ | assumption) ⟨by decide, by decide⟩ ?_
    exact ⟨rfl, rfl⟩
  · exact absurd c5 hx
theorem C_rentX {Γ : GTy} {Y : HS} (hS : MS Y) (F : FT) {x y : Int32} (hx : ¬ ((nI 0 ≤ x ∧ x ≤ nI 3) ∧ (nI 0 ≤ y ∧ y ≤ nI 7))) : Tn Γ M_X10_rent [.ref 900000, .int x, .int y] (wM Y F) (rt (some (.int (nI 0))) (wM Y (thr F (nI 1)))) := by
  refine Tn_of' rfl rfl rfl ?_
  show G Γ M_X10_rent (rm M_X10_rent) (Vn Γ M_X10_rent (rt (some (.int (nI 0))) (wM Y (thr F (nI 1))))) (0, 0) 0 [some (.ref 900000), some (.int x), some (.int y), none, none] [] (wM Y F)
  refine G_aload_n (pc := 0) dX10_rent_0 rfl ?_
  refine G_iload_n (pc := 1) dX10_rent_1 rfl ?_
  refine K_Sn1r (pc := 2) (k' := (0, 0)) mok_X10_isTable lk_X10_79 rfl (aok0 rfl) dX10_rent_2 (C_isTable _ _) rfl ?_
  refine G_if_eqB (pc := 5) (tgt := 19) dX10_rent_5 (by decide) (fun c5 => ?_) (fun c5 => ?_)
  · skip
    refine G_iconst (pc := 19) (v := nI 1) dX10_rent_19 (by first | rfl | decide) ?_
    refine M_put (pc := 20) hS fl_X10_72 fw_9_25 rfl dX10_rent_20 ?_
    refine G_aload_n (pc := 23) dX10_rent_23 rfl ?_
    refine M_get (pc := 24) hS fl_X10_72 rfl dX10_rent_24 ?_
    show G _ _ _ _ _ _ _ (.int (nI 1) :: _) _
    refine G_if_leN (pc := 27) (tgt := 32) (by omega) dX10_rent_27 (by decide) (fun h => absurd h (by decide)) (fun _ => ?_)
    refine G_iconst (pc := 30) (v := nI 0) dX10_rent_30 (by first | rfl | decide) ?_
    refine G_iret (pc := 31) VZ.n dX10_rent_31 rfl ⟨by decide, by decide⟩ ?_
    exact ⟨rfl, rfl⟩
  · skip
    refine G_iload_n (pc := 8) dX10_rent_8 rfl ?_
    refine K_Sn1r (pc := 9) (k' := (0, 0)) mok_X10_isCustomer lk_X10_83 rfl (aok0 rfl) dX10_rent_9 (C_isCustomer _ _) rfl ?_
    refine G_if_eqB (pc := 12) (tgt := 19) dX10_rent_12 (by decide) (fun c12 => ?_) (fun c12 => ?_)
    · skip
      refine G_iconst (pc := 19) (v := nI 1) dX10_rent_19 (by first | rfl | decide) ?_
      refine M_put (pc := 20) hS fl_X10_72 fw_9_25 rfl dX10_rent_20 ?_
      refine G_aload_n (pc := 23) dX10_rent_23 rfl ?_
      refine M_get (pc := 24) hS fl_X10_72 rfl dX10_rent_24 ?_
      show G _ _ _ _ _ _ _ (.int (nI 1) :: _) _
      refine G_if_leN (pc := 27) (tgt := 32) (by omega) dX10_rent_27 (by decide) (fun h => absurd h (by decide)) (fun _ => ?_)
      refine G_iconst (pc := 30) (v := nI 0) dX10_rent_30 (by first | rfl | decide) ?_
      refine G_iret (pc := 31) VZ.n dX10_rent_31 rfl ⟨by decide, by decide⟩ ?_
      exact ⟨rfl, rfl⟩
    · exact absurd ⟨c5, c12⟩ hx
def mRent (F : FT) (t c : Nat) : Int32 × FT :=
  if F 102 t = 0 then (if 0 < F 103 t then (nI 0, thr (thr F (nI 0)) (nI 2)) else if lastW (fun k => F 103 k = nI (c + 1)) 4 < 0 then (nI (cnt (fun k => ¬ u2 F 103 t (nI (c + 1)) 103 k ≤ 0) 4), u2 (u2 (thr (thr F (nI 0)) (nI 0)) 103 t (nI (c + 1))) 105 t (nI 0)) else (nI 0, thr (thr F (nI 0)) (nI 2))) else (nI 0, thr (thr F (nI 0)) (nI 2))
theorem C_rentN {Γ : GTy} {Y : HS} (hS : MS Y) (F : FT) {t c : Nat} (ht : t < 4) (hc : c < 8) : Tn Γ M_X10_rent [.ref 900000, .int (nI t), .int (nI c)] (wM Y F) (rt (some (.int (mRent F t c).1)) (wM Y (mRent F t c).2)) := by
  refine Tn_of' rfl rfl rfl ?_
  show G Γ M_X10_rent (rm M_X10_rent) (Vn Γ M_X10_rent (rt (some (.int (mRent F t c).1)) (wM Y (mRent F t c).2))) (0, 0) 0 [some (.ref 900000), some (.int (nI t)), some (.int (nI c)), none, none] [] (wM Y F)
  refine G_aload_n (pc := 0) dX10_rent_0 rfl ?_
  refine G_iload_n (pc := 1) dX10_rent_1 rfl ?_
  refine K_Sn1r (pc := 2) (k' := (0, 0)) mok_X10_isTable lk_X10_79 rfl (aok0 rfl) dX10_rent_2 (C_isTableN ht _) rfl ?_
  refine G_if_eqN (pc := 5) (tgt := 19) (by omega) dX10_rent_5 (by decide) (fun h => absurd h (by decide)) (fun _ => ?_)
  refine G_iload_n (pc := 8) dX10_rent_8 rfl ?_
  refine K_Sn1r (pc := 9) (k' := (0, 0)) mok_X10_isCustomer lk_X10_83 rfl (aok0 rfl) dX10_rent_9 (C_isCustomerN hc _) rfl ?_
  refine G_if_eqN (pc := 12) (tgt := 19) (by omega) dX10_rent_12 (by decide) (fun h => absurd h (by decide)) (fun _ => ?_)
  refine G_iconst (pc := 15) (v := nI 0) dX10_rent_15 (by first | rfl | decide) ?_
  refine G_goto (pc := 16) (tgt := 20) dX10_rent_16 (by decide) ?_
  refine M_put (pc := 20) hS fl_X10_72 fw_9_25 rfl dX10_rent_20 ?_
  refine G_aload_n (pc := 23) dX10_rent_23 rfl ?_
  refine M_get (pc := 24) hS fl_X10_72 rfl dX10_rent_24 ?_
  show G _ _ _ _ _ _ _ (.int (nI 0) :: _) _
  refine G_if_leN (pc := 27) (tgt := 32) (by omega) dX10_rent_27 (by decide) (fun _ => ?_) (fun h => absurd h (by decide))
  refine G_aload_n (pc := 32) dX10_rent_32 rfl ?_
  refine G_aload_n (pc := 33) dX10_rent_33 rfl ?_
  refine M_arr (pc := 34) (a := 1900102) hS fl_X10_13 rfl rfl dX10_rent_34 ?_
  refine G_iload_n (pc := 37) dX10_rent_37 rfl ?_
  refine M_bldv (pc := 38) (kk := 2) (j := t) (v := F 102 t) rfl hS rfl rfl rfl ht dX10_rent_38 ?_
  refine G_if_ne (pc := 39) (tgt := 59) dX10_rent_39 (by decide) (fun c39 => ?_) (fun c39 => ?_)
  · skip
    refine G_iconst (pc := 59) (v := nI 2) dX10_rent_59 (by first | rfl | decide) ?_
    refine G_goto (pc := 60) (tgt := 64) dX10_rent_60 (by decide) ?_
    refine M_put (pc := 64) hS fl_X10_72 fw_9_25 rfl dX10_rent_64 ?_
    refine G_aload_n (pc := 67) dX10_rent_67 rfl ?_
    refine M_get (pc := 68) hS fl_X10_72 rfl dX10_rent_68 ?_
    show G _ _ _ _ _ _ _ (.int (nI 2) :: _) _
    refine G_if_leN (pc := 71) (tgt := 76) (by omega) dX10_rent_71 (by decide) (fun h => absurd h (by decide)) (fun _ => ?_)
    refine G_iconst (pc := 74) (v := nI 0) dX10_rent_74 (by first | rfl | decide) ?_
    refine G_iret (pc := 75) VZ.n dX10_rent_75 rfl ⟨by decide, by decide⟩ ?_
    simp only [rt, mRent]
    (first | rw [if_pos c39] | rw [if_neg c39] | skip)
    (first | rw [if_pos c48] | rw [if_neg c48] | skip)
    (first | rw [if_pos c56] | rw [if_neg c56] | skip)
    exact ⟨rfl, rfl⟩
  · skip
    refine G_aload_n (pc := 42) dX10_rent_42 rfl ?_
    refine M_arr (pc := 43) (a := 1900103) hS fl_X10_17 rfl rfl dX10_rent_43 ?_
    refine G_iload_n (pc := 46) dX10_rent_46 rfl ?_
    refine M_ldv (pc := 47) (kk := 3) (j := t) (v := F 103 t) rfl hS rfl rfl rfl ht dX10_rent_47 ?_
    refine G_if_gt (pc := 48) (tgt := 59) dX10_rent_48 (by decide) (fun c48 => ?_) (fun c48 => ?_)
    · skip
      refine G_iconst (pc := 59) (v := nI 2) dX10_rent_59 (by first | rfl | decide) ?_
      refine G_goto (pc := 60) (tgt := 64) dX10_rent_60 (by decide) ?_
      refine M_put (pc := 64) hS fl_X10_72 fw_9_25 rfl dX10_rent_64 ?_
      refine G_aload_n (pc := 67) dX10_rent_67 rfl ?_
      refine M_get (pc := 68) hS fl_X10_72 rfl dX10_rent_68 ?_
      show G _ _ _ _ _ _ _ (.int (nI 2) :: _) _
      refine G_if_leN (pc := 71) (tgt := 76) (by omega) dX10_rent_71 (by decide) (fun h => absurd h (by decide)) (fun _ => ?_)
      refine G_iconst (pc := 74) (v := nI 0) dX10_rent_74 (by first | rfl | decide) ?_
      refine G_iret (pc := 75) VZ.n dX10_rent_75 rfl ⟨by decide, by decide⟩ ?_
      simp only [rt, mRent]
      (first | rw [if_pos c39] | rw [if_neg c39] | skip)
      (first | rw [if_pos c48] | rw [if_neg c48] | skip)
      (first | rw [if_pos c56] | rw [if_neg c56] | skip)
      exact ⟨rfl, rfl⟩
    · skip
      refine G_aload_n (pc := 51) dX10_rent_51 rfl ?_
      refine G_iload_n (pc := 52) dX10_rent_52 rfl ?_
      refine K_Vn1r (pc := 53) (k' := (0, 0)) mok_X10_tableOf lk_X10_86 hS.1 rfl rfl rfl (aok0 rfl) dX10_rent_53 (C_tableOf hS _ _) rfl ?_
      show G _ _ _ _ _ _ _ (.int (lastW (fun k => F 103 k = nI (c + 1)) 4) :: _) _
      refine G_if_lt (pc := 56) (tgt := 63) dX10_rent_56 (by decide) (fun c56 => ?_) (fun c56 => ?_)
      · skip
        refine G_iconst (pc := 63) (v := nI 0) dX10_rent_63 (by first | rfl | decide) ?_
        refine M_put (pc := 64) hS fl_X10_72 fw_9_25 rfl dX10_rent_64 ?_
        refine G_aload_n (pc := 67) dX10_rent_67 rfl ?_
        refine M_get (pc := 68) hS fl_X10_72 rfl dX10_rent_68 ?_
        show G _ _ _ _ _ _ _ (.int (nI 0) :: _) _
        refine G_if_leN (pc := 71) (tgt := 76) (by omega) dX10_rent_71 (by decide) (fun _ => ?_) (fun h => absurd h (by decide))
        refine G_aload_n (pc := 76) dX10_rent_76 rfl ?_
        refine M_arr (pc := 77) (a := 1900103) hS fl_X10_17 rfl rfl dX10_rent_77 ?_
        refine G_iload_n (pc := 80) dX10_rent_80 rfl ?_
        refine G_iload_n (pc := 81) dX10_rent_81 rfl ?_
        refine G_iconst (pc := 82) (v := nI 1) dX10_rent_82 (by first | rfl | decide) ?_
        refine G_iaddN (pc := 83) dX10_rent_83 ?_
        refine M_st (pc := 84) (kk := 3) (j := t) hS rfl rfl rfl ht dX10_rent_84 ?_
        refine G_aload_n (pc := 85) dX10_rent_85 rfl ?_
        refine M_arr (pc := 86) (a := 1900105) hS fl_X10_24 rfl rfl dX10_rent_86 ?_
        refine G_iload_n (pc := 89) dX10_rent_89 rfl ?_
        refine G_iconst (pc := 90) (v := nI 0) dX10_rent_90 (by first | rfl | decide) ?_
        refine M_st (pc := 91) (kk := 5) (j := t) hS rfl rfl rfl ht dX10_rent_91 ?_
        refine G_iconst (pc := 92) (v := nI 0) dX10_rent_92 (by first | rfl | decide) ?_
        refine G_istore_n (pc := 93) dX10_rent_93 (by decide) ?_
        refine G_iconst (pc := 94) (v := nI 0) dX10_rent_94 (by first | rfl | decide) ?_
        refine G_istore (pc := 95) dX10_rent_95 (by decide) ?_
        have loop :  ∀ (n j : Nat), j + n = 4 → G Γ M_X10_rent (rm M_X10_rent) (Vn Γ M_X10_rent (rt (some (.int (mRent F t c).1)) (wM Y (mRent F t c).2))) (0, 0) 97 [some (.ref 900000), some (.int (nI t)), some (.int (nI c)), some (.int (nI (cnt (fun k => ¬ u2 F 103 t (nI (c + 1)) 103 k ≤ 0) j))), some (.int (nI j))] [] (wM Y (u2 (u2 (thr (thr F (nI 0)) (nI 0)) 103 t (nI (c + 1))) 105 t (nI 0))) := by
            intro n
            induction n with
            | zero =>
              intro j hj
              obtain rfl : j = 4 := by omega
              refine G_iload (pc := 97) dX10_rent_97 rfl ?_
              refine G_iconst (pc := 99) (v := nI 4) dX10_rent_99 (by first | rfl | decide) ?_
              refine G_icmp_geN (pc := 100) (tgt := 127) (by omega) (by omega) dX10_rent_100 (by decide) (fun c100 => ?_) (fun c100 => ?_)
              · skip
                refine G_iload_n (pc := 127) dX10_rent_127 rfl ?_
                refine G_iret (pc := 128) VZ.n dX10_rent_128 rfl ⟨by decide, by decide⟩ ?_
                simp only [rt, mRent]
                rw [if_pos c39, if_neg c48, if_pos c56]
                exact ⟨rfl, rfl⟩
              · omega
            | succ n ih =>
              intro j hj
              have hj9 : j < 4 := by omega
              refine G_iload (pc := 97) dX10_rent_97 rfl ?_
              refine G_iconst (pc := 99) (v := nI 4) dX10_rent_99 (by first | rfl | decide) ?_
              refine G_icmp_geN (pc := 100) (tgt := 127) (by omega) (by omega) dX10_rent_100 (by decide) (fun c100 => ?_) (fun c100 => ?_)
              · omega
              · skip
                refine G_iload_n (pc := 103) dX10_rent_103 rfl ?_
                refine G_aload_n (pc := 104) dX10_rent_104 rfl ?_
                refine M_arr (pc := 105) (a := 1900103) hS fl_X10_17 rfl rfl dX10_rent_105 ?_
                refine G_iload (pc := 108) dX10_rent_108 rfl ?_
                refine M_ldv (pc := 110) (kk := 3) (j := j) (v := u2 F 103 t (nI (c + 1)) 103 j) rfl hS rfl rfl rfl hj9 dX10_rent_110 ?_
                refine G_if_le (pc := 111) (tgt := 118) dX10_rent_111 (by decide) (fun c111 => ?_) (fun c111 => ?_)
                · skip
                  refine G_iconst (pc := 118) (v := nI 0) dX10_rent_118 (by first | rfl | decide) ?_
                  refine G_iaddN (pc := 119) dX10_rent_119 ?_
                  refine G_istore_n (pc := 120) dX10_rent_120 (by decide) ?_
                  refine G_iincN (pc := 121) dX10_rent_121 rfl (by decide) ?_
                  refine G_goto (pc := 124) (tgt := 97) dX10_rent_124 (by decide) ?_
                  have h9 := ih (j + 1) (by omega)
                  simp only [cnt, c111, ↓reduceIte, not_true_eq_false, not_false_eq_true] at h9
                  exact h9
                · skip
                  refine G_iconst (pc := 114) (v := nI 1) dX10_rent_114 (by first | rfl | decide) ?_
                  refine G_goto (pc := 115) (tgt := 119) dX10_rent_115 (by decide) ?_
                  refine G_iaddN (pc := 119) dX10_rent_119 ?_
                  refine G_istore_n (pc := 120) dX10_rent_120 (by decide) ?_
                  refine G_iincN (pc := 121) dX10_rent_121 rfl (by decide) ?_
                  refine G_goto (pc := 124) (tgt := 97) dX10_rent_124 (by decide) ?_
                  have h9 := ih (j + 1) (by omega)
                  simp only [cnt, c111, ↓reduceIte, not_true_eq_false, not_false_eq_true] at h9
                  exact h9
        exact loop 4 0 rfl
      · skip
        refine G_iconst (pc := 59) (v := nI 2) dX10_rent_59 (by first | rfl | decide) ?_
        refine G_goto (pc := 60) (tgt := 64) dX10_rent_60 (by decide) ?_
        refine M_put (pc := 64) hS fl_X10_72 fw_9_25 rfl dX10_rent_64 ?_
        refine G_aload_n (pc := 67) dX10_rent_67 rfl ?_
        refine M_get (pc := 68) hS fl_X10_72 rfl dX10_rent_68 ?_
        show G _ _ _ _ _ _ _ (.int (nI 2) :: _) _
        refine G_if_leN (pc := 71) (tgt := 76) (by omega) dX10_rent_71 (by decide) (fun h => absurd h (by decide)) (fun _ => ?_)
        refine G_iconst (pc := 74) (v := nI 0) dX10_rent_74 (by first | rfl | decide) ?_
        refine G_iret (pc := 75) VZ.n dX10_rent_75 rfl ⟨by decide, by decide⟩ ?_
        simp only [rt, mRent]
        (first | rw [if_pos c39] | rw [if_neg c39] | skip)
        (first | rw [if_pos c48] | rw [if_neg c48] | skip)
        (first | rw [if_pos c56] | rw [if_neg c56] | skip)
        exact ⟨rfl, rfl⟩
def mClears (F : FT) (t h : Nat) : FT := if 0 < h then u2 (u2 F 113 (h - 1) (nI 1)) 104 t (nI 0) else F
theorem C_clears {Γ : GTy} {Y : HS} (hS : MS Y) (F : FT) {t h : Nat} (ht : t < 4) (hh : F 104 t = nI h) (h20 : h ≤ 20) : Tn Γ M_X10_clears [.ref 900000, .int (nI t)] (wM Y F) (rt none (wM Y (mClears F t h))) := by
  refine Tn_of' rfl rfl rfl ?_
  show G Γ M_X10_clears (rm M_X10_clears) (Vn Γ M_X10_clears (rt none (wM Y (mClears F t h)))) (0, 0) 0 [some (.ref 900000), some (.int (nI t))] [] (wM Y F)
  refine G_aload_n (pc := 0) dX10_clears_0 rfl ?_
  refine M_arr (pc := 1) (a := 1900104) hS fl_X10_21 rfl rfl dX10_clears_1 ?_
  refine G_iload_n (pc := 4) dX10_clears_4 rfl ?_
  refine M_ldv (pc := 5) (kk := 4) (j := t) (v := nI h) hh hS rfl rfl rfl ht dX10_clears_5 ?_
  refine G_if_leN (pc := 6) (tgt := 30) (by omega) dX10_clears_6 (by decide) (fun c6 => ?_) (fun c6 => ?_)
  · skip
    refine G_vret (pc := 30) VZ.n dX10_clears_30 rfl ⟨by decide, by decide⟩ ?_
    refine ⟨rfl, ?_⟩
    first | (rw [mClears, if_pos c6]) | (rw [mClears, if_neg (by omega)])
  · skip
    refine G_aload_n (pc := 9) dX10_clears_9 rfl ?_
    refine M_arr (pc := 10) (a := 1900113) hS fl_X10_45 rfl rfl dX10_clears_10 ?_
    refine G_aload_n (pc := 13) dX10_clears_13 rfl ?_
    refine M_arr (pc := 14) (a := 1900104) hS fl_X10_21 rfl rfl dX10_clears_14 ?_
    refine G_iload_n (pc := 17) dX10_clears_17 rfl ?_
    refine M_ldv (pc := 18) (kk := 4) (j := t) (v := nI h) hh hS rfl rfl rfl ht dX10_clears_18 ?_
    refine G_iconst (pc := 19) (v := nI 1) dX10_clears_19 (by first | rfl | decide) ?_
    refine G_isubN (pc := 20) (by omega) dX10_clears_20 ?_
    refine G_iconst (pc := 21) (v := nI 1) dX10_clears_21 (by first | rfl | decide) ?_
    refine M_st (pc := 22) (kk := 13) (j := h - 1) hS rfl rfl rfl (show h - 1 < 20 by omega) dX10_clears_22 ?_
    refine G_aload_n (pc := 23) dX10_clears_23 rfl ?_
    refine M_arr (pc := 24) (a := 1900104) hS fl_X10_21 rfl rfl dX10_clears_24 ?_
    refine G_iload_n (pc := 27) dX10_clears_27 rfl ?_
    refine G_iconst (pc := 28) (v := nI 0) dX10_clears_28 (by first | rfl | decide) ?_
    refine M_st (pc := 29) (kk := 4) (j := t) hS rfl rfl rfl ht dX10_clears_29 ?_
    refine G_vret (pc := 30) VZ.n dX10_clears_30 rfl ⟨by decide, by decide⟩ ?_
    refine ⟨rfl, ?_⟩
    first | (rw [mClears, if_pos c6]) | (rw [mClears, if_neg (by omega)])
def mEnds (F : FT) (t r h : Nat) : Int32 × FT :=
  if r = 0 then (nI 0, F) else (F 1 0 * ((F 105 t + nI 9) / nI 10), if 0 < h ∧ F 112 (h - 1) = 0 then mClears (u2 (u2 (u2 F 106 (r - 1) (F 106 (r - 1) + F 1 0 * ((F 105 t + nI 9) / nI 10))) 103 t (nI 0)) 105 t (nI 0)) t h else u2 (u2 (u2 F 106 (r - 1) (F 106 (r - 1) + F 1 0 * ((F 105 t + nI 9) / nI 10))) 103 t (nI 0)) 105 t (nI 0))
theorem C_ends {Γ : GTy} {Y : HS} (hS : MS Y) (F : FT) {t r h : Nat} (ht : t < 4) (hr : F 103 t = nI r) (r8 : r ≤ 8) (hh : F 104 t = nI h) (h20 : h ≤ 20) : Tn Γ M_X10_ends [.ref 900000, .int (nI t)] (wM Y F) (rt (some (.int (mEnds F t r h).1)) (wM Y (mEnds F t r h).2)) := by
  refine Tn_of' rfl rfl rfl ?_
  show G Γ M_X10_ends (rm M_X10_ends) (Vn Γ M_X10_ends (rt (some (.int (mEnds F t r h).1)) (wM Y (mEnds F t r h).2))) (0, 0) 0 [some (.ref 900000), some (.int (nI t)), none] [] (wM Y F)
  refine G_aload_n (pc := 0) dX10_ends_0 rfl ?_
  refine M_arr (pc := 1) (a := 1900103) hS fl_X10_17 rfl rfl dX10_ends_1 ?_
  refine G_iload_n (pc := 4) dX10_ends_4 rfl ?_
  refine M_ldv (pc := 5) (kk := 3) (j := t) (v := nI r) hr hS rfl rfl rfl ht dX10_ends_5 ?_
  refine G_if_neN (pc := 6) (tgt := 11) (by omega) dX10_ends_6 (by decide) (fun c6 => ?_) (fun c6 => ?_)
  · skip
    refine G_aload_n (pc := 11) dX10_ends_11 rfl ?_
    refine M_get (pc := 12) hS fl_X10_7 rfl dX10_ends_12 ?_
    refine G_aload_n (pc := 15) dX10_ends_15 rfl ?_
    refine M_arr (pc := 16) (a := 1900105) hS fl_X10_24 rfl rfl dX10_ends_16 ?_
    refine G_iload_n (pc := 19) dX10_ends_19 rfl ?_
    refine M_ld (pc := 20) (kk := 5) (j := t) hS rfl rfl rfl ht dX10_ends_20 ?_
    refine G_bipush (pc := 21) (v := nI 9) dX10_ends_21 (by first | rfl | decide) ?_
    refine G_iadd (pc := 23) dX10_ends_23 ?_
    refine G_bipush (pc := 24) (v := nI 10) dX10_ends_24 (by first | rfl | decide) ?_
    refine G_idiv (pc := 26) dX10_ends_26 (by decide) ?_
    refine G_imul (pc := 27) dX10_ends_27 ?_
    refine G_istore_n (pc := 28) dX10_ends_28 (by decide) ?_
    refine G_aload_n (pc := 29) dX10_ends_29 rfl ?_
    refine M_arr (pc := 30) (a := 1900106) hS fl_X10_27 rfl rfl dX10_ends_30 ?_
    refine G_aload_n (pc := 33) dX10_ends_33 rfl ?_
    refine M_arr (pc := 34) (a := 1900103) hS fl_X10_17 rfl rfl dX10_ends_34 ?_
    refine G_iload_n (pc := 37) dX10_ends_37 rfl ?_
    refine M_ldv (pc := 38) (kk := 3) (j := t) (v := nI r) hr hS rfl rfl rfl ht dX10_ends_38 ?_
    refine G_iconst (pc := 39) (v := nI 1) dX10_ends_39 (by first | rfl | decide) ?_
    refine G_isubN (pc := 40) (by omega) dX10_ends_40 ?_
    refine G_dup2 (pc := 41) dX10_ends_41 rfl rfl ?_
    refine M_ld (pc := 42) (kk := 6) (j := r - 1) hS rfl rfl rfl (show r - 1 < 8 by omega) dX10_ends_42 ?_
    refine G_iload_n (pc := 43) dX10_ends_43 rfl ?_
    refine G_iadd (pc := 44) dX10_ends_44 ?_
    refine M_st (pc := 45) (kk := 6) (j := r - 1) hS rfl rfl rfl (show r - 1 < 8 by omega) dX10_ends_45 ?_
    refine G_aload_n (pc := 46) dX10_ends_46 rfl ?_
    refine M_arr (pc := 47) (a := 1900103) hS fl_X10_17 rfl rfl dX10_ends_47 ?_
    refine G_iload_n (pc := 50) dX10_ends_50 rfl ?_
    refine G_iconst (pc := 51) (v := nI 0) dX10_ends_51 (by first | rfl | decide) ?_
    refine M_st (pc := 52) (kk := 3) (j := t) hS rfl rfl rfl ht dX10_ends_52 ?_
    refine G_aload_n (pc := 53) dX10_ends_53 rfl ?_
    refine M_arr (pc := 54) (a := 1900105) hS fl_X10_24 rfl rfl dX10_ends_54 ?_
    refine G_iload_n (pc := 57) dX10_ends_57 rfl ?_
    refine G_iconst (pc := 58) (v := nI 0) dX10_ends_58 (by first | rfl | decide) ?_
    refine M_st (pc := 59) (kk := 5) (j := t) hS rfl rfl rfl ht dX10_ends_59 ?_
    refine G_aload_n (pc := 60) dX10_ends_60 rfl ?_
    refine M_arr (pc := 61) (a := 1900104) hS fl_X10_21 rfl rfl dX10_ends_61 ?_
    refine G_iload_n (pc := 64) dX10_ends_64 rfl ?_
    refine M_ldv (pc := 65) (kk := 4) (j := t) (v := nI h) hh hS rfl rfl rfl ht dX10_ends_65 ?_
    refine G_if_leN (pc := 66) (tgt := 90) (by omega) dX10_ends_66 (by decide) (fun c66 => ?_) (fun c66 => ?_)
    · skip
      refine G_iload_n (pc := 90) dX10_ends_90 rfl ?_
      refine G_iret (pc := 91) VZ.n dX10_ends_91 rfl ⟨by decide, by decide⟩ ?_
      simp only [rt, mEnds]
      first
        | (rw [if_pos c6]; exact ⟨rfl, rfl⟩)
        | (rw [if_neg c6, if_pos ⟨c66, c82⟩]; exact ⟨rfl, rfl⟩)
        | (rw [if_neg c6, if_neg (fun g => by omega)]; exact ⟨rfl, rfl⟩)
        | (rw [if_neg c6, if_neg (fun g => c82 g.2)]; exact ⟨rfl, rfl⟩)
    · skip
      refine G_aload_n (pc := 69) dX10_ends_69 rfl ?_
      refine M_arr (pc := 70) (a := 1900112) hS fl_X10_42 rfl rfl dX10_ends_70 ?_
      refine G_aload_n (pc := 73) dX10_ends_73 rfl ?_
      refine M_arr (pc := 74) (a := 1900104) hS fl_X10_21 rfl rfl dX10_ends_74 ?_
      refine G_iload_n (pc := 77) dX10_ends_77 rfl ?_
      refine M_ldv (pc := 78) (kk := 4) (j := t) (v := nI h) hh hS rfl rfl rfl ht dX10_ends_78 ?_
      refine G_iconst (pc := 79) (v := nI 1) dX10_ends_79 (by first | rfl | decide) ?_
      refine G_isubN (pc := 80) (by omega) dX10_ends_80 ?_
      refine M_bldv (pc := 81) (kk := 12) (j := h - 1) (v := F 112 (h - 1)) rfl hS rfl rfl rfl (show h - 1 < 20 by omega) dX10_ends_81 ?_
      refine G_if_ne (pc := 82) (tgt := 90) dX10_ends_82 (by decide) (fun c82 => ?_) (fun c82 => ?_)
      · skip
        refine G_iload_n (pc := 90) dX10_ends_90 rfl ?_
        refine G_iret (pc := 91) VZ.n dX10_ends_91 rfl ⟨by decide, by decide⟩ ?_
        simp only [rt, mEnds]
        first
          | (rw [if_pos c6]; exact ⟨rfl, rfl⟩)
          | (rw [if_neg c6, if_pos ⟨c66, c82⟩]; exact ⟨rfl, rfl⟩)
          | (rw [if_neg c6, if_neg (fun g => by omega)]; exact ⟨rfl, rfl⟩)
          | (rw [if_neg c6, if_neg (fun g => c82 g.2)]; exact ⟨rfl, rfl⟩)
      · skip
        refine G_aload_n (pc := 85) dX10_ends_85 rfl ?_
        refine G_iload_n (pc := 86) dX10_ends_86 rfl ?_
        refine K_Vn1v (pc := 87) (k' := (0, 0)) mok_X10_clears lk_X10_90 hS.1 rfl rfl rfl (aok0 rfl) dX10_ends_87 (C_clears hS _ ht hh h20) rfl ?_
        refine G_iload_n (pc := 90) dX10_ends_90 rfl ?_
        refine G_iret (pc := 91) VZ.n dX10_ends_91 rfl ⟨by decide, by decide⟩ ?_
        simp only [rt, mEnds]
        first
          | (rw [if_pos c6]; exact ⟨rfl, rfl⟩)
          | (rw [if_neg c6, if_pos ⟨c66, c82⟩]; exact ⟨rfl, rfl⟩)
          | (rw [if_neg c6, if_neg (fun g => by omega)]; exact ⟨rfl, rfl⟩)
          | (rw [if_neg c6, if_neg (fun g => c82 g.2)]; exact ⟨rfl, rfl⟩)
  · skip
    refine G_iconst (pc := 9) (v := nI 0) dX10_ends_9 (by first | rfl | decide) ?_
    refine G_iret (pc := 10) VZ.n dX10_ends_10 rfl ⟨by decide, by decide⟩ ?_
    simp only [rt, mEnds]
    first
      | (rw [if_pos c6]; exact ⟨rfl, rfl⟩)
      | (rw [if_neg c6, if_pos ⟨c66, c82⟩]; exact ⟨rfl, rfl⟩)
      | (rw [if_neg c6, if_neg (fun g => by omega)]; exact ⟨rfl, rfl⟩)
      | (rw [if_neg c6, if_neg (fun g => c82 g.2)]; exact ⟨rfl, rfl⟩)
theorem C_endX {Γ : GTy} {Y : HS} (hS : MS Y) (F : FT) {x : Int32} (hx : ¬ (nI 0 ≤ x ∧ x ≤ nI 3)) : Tn Γ M_X10_end [.ref 900000, .int x] (wM Y F) (rt (some (.int (nI 0))) (wM Y (thr F (nI 1)))) := by
  refine Tn_of' rfl rfl rfl ?_
  show G Γ M_X10_end (rm M_X10_end) (Vn Γ M_X10_end (rt (some (.int (nI 0))) (wM Y (thr F (nI 1))))) (0, 0) 0 [some (.ref 900000), some (.int x)] [] (wM Y F)
  refine G_aload_n (pc := 0) dX10_end_0 rfl ?_
  refine G_iload_n (pc := 1) dX10_end_1 rfl ?_
  refine K_Vn1r (pc := 2) (k' := (0, 0)) mok_X10_asksTable lk_X10_94 hS.1 rfl rfl rfl (aok0 rfl) dX10_end_2 (C_asksTableX hS _ hx) rfl ?_
  refine G_if_neN (pc := 5) (tgt := 10) (by omega) dX10_end_5 (by decide) (fun h => absurd h (by decide)) (fun _ => ?_)
  refine G_iconst (pc := 8) (v := nI 0) dX10_end_8 (by first | rfl | decide) ?_
  refine G_iret (pc := 9) VZ.n dX10_end_9 rfl ⟨by decide, by decide⟩ ?_
  exact ⟨rfl, rfl⟩
def mEnd (F : FT) (t r h : Nat) : Int32 × FT := if r = 0 then (nI 0, thr (thr F (nI 0)) (nI 2)) else mEnds (thr (thr F (nI 0)) (nI 0)) t r h
theorem C_endN {Γ : GTy} {Y : HS} (hS : MS Y) (F : FT) {t r h : Nat} (ht : t < 4) (hr : F 103 t = nI r) (r8 : r ≤ 8) (hh : F 104 t = nI h) (h20 : h ≤ 20) : Tn Γ M_X10_end [.ref 900000, .int (nI t)] (wM Y F) (rt (some (.int (mEnd F t r h).1)) (wM Y (mEnd F t r h).2)) := by
  refine Tn_of' rfl rfl rfl ?_
  show G Γ M_X10_end (rm M_X10_end) (Vn Γ M_X10_end (rt (some (.int (mEnd F t r h).1)) (wM Y (mEnd F t r h).2))) (0, 0) 0 [some (.ref 900000), some (.int (nI t))] [] (wM Y F)
  refine G_aload_n (pc := 0) dX10_end_0 rfl ?_
  refine G_iload_n (pc := 1) dX10_end_1 rfl ?_
  refine K_Vn1r (pc := 2) (k' := (0, 0)) mok_X10_asksTable lk_X10_94 hS.1 rfl rfl rfl (aok0 rfl) dX10_end_2 (C_asksTableN hS _ ht) rfl ?_
  refine G_if_neN (pc := 5) (tgt := 10) (by omega) dX10_end_5 (by decide) (fun _ => ?_) (fun h => absurd h (by decide))
  refine G_aload_n (pc := 10) dX10_end_10 rfl ?_
  refine G_aload_n (pc := 11) dX10_end_11 rfl ?_
  refine M_arr (pc := 12) (a := 1900103) hS fl_X10_17 rfl rfl dX10_end_12 ?_
  refine G_iload_n (pc := 15) dX10_end_15 rfl ?_
  refine M_ldv (pc := 16) (kk := 3) (j := t) (v := nI r) hr hS rfl rfl rfl ht dX10_end_16 ?_
  refine G_if_neN (pc := 17) (tgt := 24) (by omega) dX10_end_17 (by decide) (fun c17 => ?_) (fun c17 => ?_)
  · skip
    refine G_iconst (pc := 24) (v := nI 0) dX10_end_24 (by first | rfl | decide) ?_
    refine M_put (pc := 25) hS fl_X10_72 fw_9_25 rfl dX10_end_25 ?_
    refine G_aload_n (pc := 28) dX10_end_28 rfl ?_
    refine M_get (pc := 29) hS fl_X10_72 rfl dX10_end_29 ?_
    show G _ _ _ _ _ _ _ (.int (nI 0) :: _) _
    refine G_if_leN (pc := 32) (tgt := 39) (by omega) dX10_end_32 (by decide) (fun _ => ?_) (fun h => absurd h (by decide))
    refine G_aload_n (pc := 39) dX10_end_39 rfl ?_
    refine G_iload_n (pc := 40) dX10_end_40 rfl ?_
    refine K_Vn1r (pc := 41) (k' := (0, 0)) mok_X10_ends lk_X10_97 hS.1 rfl rfl rfl (aok0 rfl) dX10_end_41 (C_ends hS _ ht hr r8 hh h20) rfl ?_
    refine G_iret (pc := 44) VZ.n dX10_end_44 rfl ⟨by decide, by decide⟩ ?_
    simp only [rt, mEnd]
    (first | rw [if_pos c17] | rw [if_neg c17] | skip)
    exact ⟨rfl, rfl⟩
  · skip
    refine G_iconst (pc := 20) (v := nI 2) dX10_end_20 (by first | rfl | decide) ?_
    refine G_goto (pc := 21) (tgt := 25) dX10_end_21 (by decide) ?_
    refine M_put (pc := 25) hS fl_X10_72 fw_9_25 rfl dX10_end_25 ?_
    refine G_aload_n (pc := 28) dX10_end_28 rfl ?_
    refine M_get (pc := 29) hS fl_X10_72 rfl dX10_end_29 ?_
    show G _ _ _ _ _ _ _ (.int (nI 2) :: _) _
    refine G_if_leN (pc := 32) (tgt := 39) (by omega) dX10_end_32 (by decide) (fun h => absurd h (by decide)) (fun _ => ?_)
    refine G_iconst (pc := 35) (v := nI 0) dX10_end_35 (by first | rfl | decide) ?_
    refine G_goto (pc := 36) (tgt := 44) dX10_end_36 (by decide) ?_
    refine G_iret (pc := 44) VZ.n dX10_end_44 rfl ⟨by decide, by decide⟩ ?_
    simp only [rt, mEnd]
    (first | rw [if_pos c17] | rw [if_neg c17] | skip)
    exact ⟨rfl, rfl⟩
theorem C_tearX {Γ : GTy} {Y : HS} (hS : MS Y) (F : FT) {x : Int32} (hx : ¬ (nI 0 ≤ x ∧ x ≤ nI 3)) : Tn Γ M_X10_tear [.ref 900000, .int x] (wM Y F) (rt (some (.int (nI 0))) (wM Y (thr F (nI 1)))) := by
  refine Tn_of' rfl rfl rfl ?_
  show G Γ M_X10_tear (rm M_X10_tear) (Vn Γ M_X10_tear (rt (some (.int (nI 0))) (wM Y (thr F (nI 1))))) (0, 0) 0 [some (.ref 900000), some (.int x), none] [] (wM Y F)
  refine G_aload_n (pc := 0) dX10_tear_0 rfl ?_
  refine G_iload_n (pc := 1) dX10_tear_1 rfl ?_
  refine K_Vn1r (pc := 2) (k' := (0, 0)) mok_X10_asksTable lk_X10_94 hS.1 rfl rfl rfl (aok0 rfl) dX10_tear_2 (C_asksTableX hS _ hx) rfl ?_
  refine G_if_neN (pc := 5) (tgt := 10) (by omega) dX10_tear_5 (by decide) (fun h => absurd h (by decide)) (fun _ => ?_)
  refine G_iconst (pc := 8) (v := nI 0) dX10_tear_8 (by first | rfl | decide) ?_
  refine G_iret (pc := 9) VZ.n dX10_tear_9 rfl ⟨by decide, by decide⟩ ?_
  exact ⟨rfl, rfl⟩
theorem mEnds_104 {F : FT} {t r h : Nat} (ht : F 104 t = nI h) : ∃ h' : Nat, (h' = h ∨ h' = 0) ∧ (mEnds F t r h).2 104 t = nI h' := by
  unfold mEnds
  split
  · exact ⟨h, Or.inl rfl, ht⟩
  · dsimp only
    split
    · next g => exact ⟨0, Or.inr rfl, by unfold mClears; rw [if_pos g.1]; simp [u2]⟩
    · exact ⟨h, Or.inl rfl, by simp [u2]; exact ht⟩
def mTear (F : FT) (t r h : Nat) : Int32 × FT := if F 102 t = 0 then ((mEnds (thr (thr F (nI 0)) (nI 0)) t r h).1, u2 (mClears (mEnds (thr (thr F (nI 0)) (nI 0)) t r h).2 t ((mEnds (thr (thr F (nI 0)) (nI 0)) t r h).2 104 t).toNatClampNeg) 102 t (nI 1)) else (nI 0, thr (thr F (nI 0)) (nI 2))
theorem C_tearN {Γ : GTy} {Y : HS} (hS : MS Y) (F : FT) {t r h : Nat} (ht : t < 4) (hr : F 103 t = nI r) (r8 : r ≤ 8) (hh : F 104 t = nI h) (h20 : h ≤ 20) : Tn Γ M_X10_tear [.ref 900000, .int (nI t)] (wM Y F) (rt (some (.int (mTear F t r h).1)) (wM Y (mTear F t r h).2)) := by
  refine Tn_of' rfl rfl rfl ?_
  show G Γ M_X10_tear (rm M_X10_tear) (Vn Γ M_X10_tear (rt (some (.int (mTear F t r h).1)) (wM Y (mTear F t r h).2))) (0, 0) 0 [some (.ref 900000), some (.int (nI t)), none] [] (wM Y F)
  refine G_aload_n (pc := 0) dX10_tear_0 rfl ?_
  refine G_iload_n (pc := 1) dX10_tear_1 rfl ?_
  refine K_Vn1r (pc := 2) (k' := (0, 0)) mok_X10_asksTable lk_X10_94 hS.1 rfl rfl rfl (aok0 rfl) dX10_tear_2 (C_asksTableN hS _ ht) rfl ?_
  refine G_if_neN (pc := 5) (tgt := 10) (by omega) dX10_tear_5 (by decide) (fun _ => ?_) (fun h => absurd h (by decide))
  refine G_aload_n (pc := 10) dX10_tear_10 rfl ?_
  refine G_aload_n (pc := 11) dX10_tear_11 rfl ?_
  refine M_arr (pc := 12) (a := 1900102) hS fl_X10_13 rfl rfl dX10_tear_12 ?_
  refine G_iload_n (pc := 15) dX10_tear_15 rfl ?_
  refine M_bldv (pc := 16) (kk := 2) (j := t) (v := F 102 t) rfl hS rfl rfl rfl ht dX10_tear_16 ?_
  refine G_if_eq (pc := 17) (tgt := 24) dX10_tear_17 (by decide) (fun c17 => ?_) (fun c17 => ?_)
  · skip
    refine G_iconst (pc := 24) (v := nI 0) dX10_tear_24 (by first | rfl | decide) ?_
    refine M_put (pc := 25) hS fl_X10_72 fw_9_25 rfl dX10_tear_25 ?_
    refine G_aload_n (pc := 28) dX10_tear_28 rfl ?_
    refine M_get (pc := 29) hS fl_X10_72 rfl dX10_tear_29 ?_
    show G _ _ _ _ _ _ _ (.int (nI 0) :: _) _
    refine G_if_leN (pc := 32) (tgt := 37) (by omega) dX10_tear_32 (by decide) (fun _ => ?_) (fun h => absurd h (by decide))
    refine G_aload_n (pc := 37) dX10_tear_37 rfl ?_
    refine G_iload_n (pc := 38) dX10_tear_38 rfl ?_
    refine K_Vn1r (pc := 39) (k' := (0, 0)) mok_X10_ends lk_X10_97 hS.1 rfl rfl rfl (aok0 rfl) dX10_tear_39 (C_ends hS _ ht hr r8 hh h20) rfl ?_
    refine G_istore_n (pc := 42) dX10_tear_42 (by decide) ?_
    refine G_aload_n (pc := 43) dX10_tear_43 rfl ?_
    refine G_iload_n (pc := 44) dX10_tear_44 rfl ?_
    obtain ⟨h', e1, e2⟩ := mEnds_104 (F := thr (thr F (nI 0)) (nI 0)) (t := t) (r := r) (h := h) hh
    have e3 : ((mEnds (thr (thr F (nI 0)) (nI 0)) t r h).2 104 t).toNatClampNeg = h' := by rw [e2]; exact nI_clamp (by omega)
    refine K_Vn1v (pc := 45) (k' := (0, 0)) mok_X10_clears lk_X10_90 hS.1 rfl rfl rfl (aok0 rfl) dX10_tear_45 (C_clears hS _ ht e2 (by omega)) rfl ?_
    refine G_aload_n (pc := 48) dX10_tear_48 rfl ?_
    refine M_arr (pc := 49) (a := 1900102) hS fl_X10_13 rfl rfl dX10_tear_49 ?_
    refine G_iload_n (pc := 52) dX10_tear_52 rfl ?_
    refine G_iconst (pc := 53) (v := nI 1) dX10_tear_53 (by first | rfl | decide) ?_
    refine M_bst (pc := 54) (kk := 2) (j := t) hS rfl rfl rfl ht (by first | exact Or.inl rfl | exact Or.inr rfl | exact b2_or _ | assumption) dX10_tear_54 ?_
    refine G_iload_n (pc := 55) dX10_tear_55 rfl ?_
    refine G_iret (pc := 56) VZ.n dX10_tear_56 rfl ⟨by decide, by decide⟩ ?_
    simp only [rt, mTear]
    first
      | (rw [if_pos c17, e3]; exact ⟨rfl, rfl⟩)
      | (rw [if_neg c17]; exact ⟨rfl, rfl⟩)
  · skip
    refine G_iconst (pc := 20) (v := nI 2) dX10_tear_20 (by first | rfl | decide) ?_
    refine G_goto (pc := 21) (tgt := 25) dX10_tear_21 (by decide) ?_
    refine M_put (pc := 25) hS fl_X10_72 fw_9_25 rfl dX10_tear_25 ?_
    refine G_aload_n (pc := 28) dX10_tear_28 rfl ?_
    refine M_get (pc := 29) hS fl_X10_72 rfl dX10_tear_29 ?_
    show G _ _ _ _ _ _ _ (.int (nI 2) :: _) _
    refine G_if_leN (pc := 32) (tgt := 37) (by omega) dX10_tear_32 (by decide) (fun h => absurd h (by decide)) (fun _ => ?_)
    refine G_iconst (pc := 35) (v := nI 0) dX10_tear_35 (by first | rfl | decide) ?_
    refine G_iret (pc := 36) VZ.n dX10_tear_36 rfl ⟨by decide, by decide⟩ ?_
    simp only [rt, mTear]
    first
      | (rw [if_pos c17, e3]; exact ⟨rfl, rfl⟩)
      | (rw [if_neg c17]; exact ⟨rfl, rfl⟩)
theorem C_mendX {Γ : GTy} {Y : HS} (hS : MS Y) (F : FT) {x : Int32} (hx : ¬ (nI 0 ≤ x ∧ x ≤ nI 3)) : Tn Γ M_X10_mend [.ref 900000, .int x] (wM Y F) (rt (some (.int (nI 0))) (wM Y (thr F (nI 1)))) := by
  refine Tn_of' rfl rfl rfl ?_
  show G Γ M_X10_mend (rm M_X10_mend) (Vn Γ M_X10_mend (rt (some (.int (nI 0))) (wM Y (thr F (nI 1))))) (0, 0) 0 [some (.ref 900000), some (.int x), none, none] [] (wM Y F)
  refine G_aload_n (pc := 0) dX10_mend_0 rfl ?_
  refine G_iload_n (pc := 1) dX10_mend_1 rfl ?_
  refine K_Vn1r (pc := 2) (k' := (0, 0)) mok_X10_asksTable lk_X10_94 hS.1 rfl rfl rfl (aok0 rfl) dX10_mend_2 (C_asksTableX hS _ hx) rfl ?_
  refine G_if_neN (pc := 5) (tgt := 10) (by omega) dX10_mend_5 (by decide) (fun h => absurd h (by decide)) (fun _ => ?_)
  refine G_iconst (pc := 8) (v := nI 0) dX10_mend_8 (by first | rfl | decide) ?_
  refine G_iret (pc := 9) VZ.n dX10_mend_9 rfl ⟨by decide, by decide⟩ ?_
  exact ⟨rfl, rfl⟩
def mMend (F : FT) (t : Nat) : Int32 × FT := if F 102 t = 0 then (nI 0, thr (thr F (nI 0)) (nI 2)) else (nI (cnt (fun k => u2 F 102 t (nI 0) 102 k = 0) 4), u2 (thr (thr F (nI 0)) (nI 0)) 102 t (nI 0))
theorem C_mendN {Γ : GTy} {Y : HS} (hS : MS Y) (F : FT) {t : Nat} (ht : t < 4) : Tn Γ M_X10_mend [.ref 900000, .int (nI t)] (wM Y F) (rt (some (.int (mMend F t).1)) (wM Y (mMend F t).2)) := by
  refine Tn_of' rfl rfl rfl ?_
  show G Γ M_X10_mend (rm M_X10_mend) (Vn Γ M_X10_mend (rt (some (.int (mMend F t).1)) (wM Y (mMend F t).2))) (0, 0) 0 [some (.ref 900000), some (.int (nI t)), none, none] [] (wM Y F)
  refine G_aload_n (pc := 0) dX10_mend_0 rfl ?_
  refine G_iload_n (pc := 1) dX10_mend_1 rfl ?_
  refine K_Vn1r (pc := 2) (k' := (0, 0)) mok_X10_asksTable lk_X10_94 hS.1 rfl rfl rfl (aok0 rfl) dX10_mend_2 (C_asksTableN hS _ ht) rfl ?_
  refine G_if_neN (pc := 5) (tgt := 10) (by omega) dX10_mend_5 (by decide) (fun _ => ?_) (fun h => absurd h (by decide))
  refine G_aload_n (pc := 10) dX10_mend_10 rfl ?_
  refine G_aload_n (pc := 11) dX10_mend_11 rfl ?_
  refine M_arr (pc := 12) (a := 1900102) hS fl_X10_13 rfl rfl dX10_mend_12 ?_
  refine G_iload_n (pc := 15) dX10_mend_15 rfl ?_
  refine M_bldv (pc := 16) (kk := 2) (j := t) (v := F 102 t) rfl hS rfl rfl rfl ht dX10_mend_16 ?_
  refine G_if_eq (pc := 17) (tgt := 24) dX10_mend_17 (by decide) (fun c17 => ?_) (fun c17 => ?_)
  · skip
    refine G_iconst (pc := 24) (v := nI 2) dX10_mend_24 (by first | rfl | decide) ?_
    refine M_put (pc := 25) hS fl_X10_72 fw_9_25 rfl dX10_mend_25 ?_
    refine G_aload_n (pc := 28) dX10_mend_28 rfl ?_
    refine M_get (pc := 29) hS fl_X10_72 rfl dX10_mend_29 ?_
    show G _ _ _ _ _ _ _ (.int (nI 2) :: _) _
    refine G_if_leN (pc := 32) (tgt := 37) (by omega) dX10_mend_32 (by decide) (fun h => absurd h (by decide)) (fun _ => ?_)
    refine G_iconst (pc := 35) (v := nI 0) dX10_mend_35 (by first | rfl | decide) ?_
    refine G_iret (pc := 36) VZ.n dX10_mend_36 rfl ⟨by decide, by decide⟩ ?_
    simp only [rt, mMend]
    (first | rw [if_pos c17] | rw [if_neg c17] | skip)
    exact ⟨rfl, rfl⟩
  · skip
    refine G_iconst (pc := 20) (v := nI 0) dX10_mend_20 (by first | rfl | decide) ?_
    refine G_goto (pc := 21) (tgt := 25) dX10_mend_21 (by decide) ?_
    refine M_put (pc := 25) hS fl_X10_72 fw_9_25 rfl dX10_mend_25 ?_
    refine G_aload_n (pc := 28) dX10_mend_28 rfl ?_
    refine M_get (pc := 29) hS fl_X10_72 rfl dX10_mend_29 ?_
    show G _ _ _ _ _ _ _ (.int (nI 0) :: _) _
    refine G_if_leN (pc := 32) (tgt := 37) (by omega) dX10_mend_32 (by decide) (fun _ => ?_) (fun h => absurd h (by decide))
    refine G_aload_n (pc := 37) dX10_mend_37 rfl ?_
    refine M_arr (pc := 38) (a := 1900102) hS fl_X10_13 rfl rfl dX10_mend_38 ?_
    refine G_iload_n (pc := 41) dX10_mend_41 rfl ?_
    refine G_iconst (pc := 42) (v := nI 0) dX10_mend_42 (by first | rfl | decide) ?_
    refine M_bst (pc := 43) (kk := 2) (j := t) hS rfl rfl rfl ht (by first | exact Or.inl rfl | exact Or.inr rfl | exact b2_or _ | assumption) dX10_mend_43 ?_
    refine G_iconst (pc := 44) (v := nI 0) dX10_mend_44 (by first | rfl | decide) ?_
    refine G_istore_n (pc := 45) dX10_mend_45 (by decide) ?_
    refine G_iconst (pc := 46) (v := nI 0) dX10_mend_46 (by first | rfl | decide) ?_
    refine G_istore_n (pc := 47) dX10_mend_47 (by decide) ?_
    have loop :  ∀ (n j : Nat), j + n = 4 → G Γ M_X10_mend (rm M_X10_mend) (Vn Γ M_X10_mend (rt (some (.int (mMend F t).1)) (wM Y (mMend F t).2))) (0, 0) 48 [some (.ref 900000), some (.int (nI t)), some (.int (nI (cnt (fun k => u2 F 102 t (nI 0) 102 k = 0) j))), some (.int (nI j))] [] (wM Y (u2 (thr (thr F (nI 0)) (nI 0)) 102 t (nI 0))) := by
        intro n
        induction n with
        | zero =>
          intro j hj
          obtain rfl : j = 4 := by omega
          refine G_iload_n (pc := 48) dX10_mend_48 rfl ?_
          refine G_iconst (pc := 49) (v := nI 4) dX10_mend_49 (by first | rfl | decide) ?_
          refine G_icmp_geN (pc := 50) (tgt := 76) (by omega) (by omega) dX10_mend_50 (by decide) (fun c50 => ?_) (fun c50 => ?_)
          · skip
            refine G_iload_n (pc := 76) dX10_mend_76 rfl ?_
            refine G_iret (pc := 77) VZ.n dX10_mend_77 rfl ⟨by decide, by decide⟩ ?_
            simp only [rt, mMend]
            rw [if_neg c17]
            exact ⟨rfl, rfl⟩
          · omega
        | succ n ih =>
          intro j hj
          have hj9 : j < 4 := by omega
          refine G_iload_n (pc := 48) dX10_mend_48 rfl ?_
          refine G_iconst (pc := 49) (v := nI 4) dX10_mend_49 (by first | rfl | decide) ?_
          refine G_icmp_geN (pc := 50) (tgt := 76) (by omega) (by omega) dX10_mend_50 (by decide) (fun c50 => ?_) (fun c50 => ?_)
          · omega
          · skip
            refine G_iload_n (pc := 53) dX10_mend_53 rfl ?_
            refine G_aload_n (pc := 54) dX10_mend_54 rfl ?_
            refine M_arr (pc := 55) (a := 1900102) hS fl_X10_13 rfl rfl dX10_mend_55 ?_
            refine G_iload_n (pc := 58) dX10_mend_58 rfl ?_
            refine M_bldv (pc := 59) (kk := 2) (j := j) (v := u2 F 102 t (nI 0) 102 j) rfl hS rfl rfl rfl hj9 dX10_mend_59 ?_
            refine G_if_eq (pc := 60) (tgt := 67) dX10_mend_60 (by decide) (fun c60 => ?_) (fun c60 => ?_)
            · skip
              refine G_iconst (pc := 67) (v := nI 1) dX10_mend_67 (by first | rfl | decide) ?_
              refine G_iaddN (pc := 68) dX10_mend_68 ?_
              refine G_istore_n (pc := 69) dX10_mend_69 (by decide) ?_
              refine G_iincN (pc := 70) dX10_mend_70 rfl (by decide) ?_
              refine G_goto (pc := 73) (tgt := 48) dX10_mend_73 (by decide) ?_
              have h9 := ih (j + 1) (by omega)
              simp only [cnt, c60, ↓reduceIte] at h9
              exact h9
            · skip
              refine G_iconst (pc := 63) (v := nI 0) dX10_mend_63 (by first | rfl | decide) ?_
              refine G_goto (pc := 64) (tgt := 68) dX10_mend_64 (by decide) ?_
              refine G_iaddN (pc := 68) dX10_mend_68 ?_
              refine G_istore_n (pc := 69) dX10_mend_69 (by decide) ?_
              refine G_iincN (pc := 70) dX10_mend_70 rfl (by decide) ?_
              refine G_goto (pc := 73) (tgt := 48) dX10_mend_73 (by decide) ?_
              have h9 := ih (j + 1) (by omega)
              simp only [cnt, c60, ↓reduceIte] at h9
              exact h9
    exact loop 4 0 rfl
