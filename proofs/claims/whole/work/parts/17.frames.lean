-- ===== the model: frames, cues, sums =====
theorem M_getv {Γ : GTy} {μ : MTy} {R : Room} {W : WTy} {k : Nat × Nat} {pc : Nat} {L : List (Option Value)} {st : List Value} {Y : HS} {F : FT} {idx kk : Nat} {v : Int32} (hv : F kk 0 = v) (hS : MS Y) (hF : FL (mN μ).cls idx 9 kk) (hr : rf 9 kk = false) (hd : decode (mC μ) pc = .ok (.getfield idx, 3)) (kt : G Γ μ R W k (pc + 3) L (.int v :: st) (wM Y F)) : G Γ μ R W k pc L (.ref 900000 :: st) (wM Y F) :=
  M_get hS hF hr hd (by rw [hv]; exact kt)
theorem cnt_t {p : Nat → Prop} [DecidablePred p] {n : Nat} (h : p n) : cnt p (n + 1) = cnt p n + 1 := congrArg (fun x => cnt p n + x) (if_pos h)
theorem cnt_f {p : Nat → Prop} [DecidablePred p] {n : Nat} (h : ¬ p n) : cnt p (n + 1) = cnt p n + 0 := congrArg (fun x => cnt p n + x) (if_neg h)
theorem iiM {a b : Nat} (h : a = b + 1) : nI a + Int32.ofInt (-1) = nI b := by rw [h]; exact pk_m1 b
theorem asks_in {n f : Nat} (h : f < n) (hn : n < 2 ^ 31) : nI 0 ≤ nI f ∧ nI f ≤ nI n - nI 1 := by
  rw [pk_sub (by omega)]
  exact inN (by omega) (by omega)
theorem C_mayPlay {Γ : GTy} {Y : HS} (hS : MS Y) (F : FT) {t a b : Nat} {z : Int32} (ht : t < 4) : Tn Γ M_X10_mayPlay [.ref 900000, .int (nI t), .int (nI a), .int (nI b), .int z] (wM Y F) (rt (some (.int (b2 (F 102 t = 0 ∧ F 104 t = 0 ∧ (¬ z = 0 ∨ (F 103 t = nI (a + 1) ∨ F 103 t = nI (b + 1))))))) (wM Y F)) := by
  refine Tn_of' rfl rfl rfl ?_
  show G Γ M_X10_mayPlay (rm M_X10_mayPlay) (Vn Γ M_X10_mayPlay (rt (some (.int (b2 (F 102 t = 0 ∧ F 104 t = 0 ∧ (¬ z = 0 ∨ (F 103 t = nI (a + 1) ∨ F 103 t = nI (b + 1))))))) (wM Y F))) (0, 0) 0 [some (.ref 900000), some (.int (nI t)), some (.int (nI a)), some (.int (nI b)), some (.int z), none] [] (wM Y F)
  refine G_aload_n (pc := 0) dX10_mayPlay_0 rfl ?_
  refine M_arr (pc := 1) (a := 1900103) hS fl_X10_17 rfl rfl dX10_mayPlay_1 ?_
  refine G_iload_n (pc := 4) dX10_mayPlay_4 rfl ?_
  refine M_ldv (pc := 5) (kk := 3) (j := t) (v := F 103 t) rfl hS rfl rfl rfl ht dX10_mayPlay_5 ?_
  refine G_iload_n (pc := 6) dX10_mayPlay_6 rfl ?_
  refine G_iconst (pc := 7) (v := nI 1) dX10_mayPlay_7 (by first | rfl | decide) ?_
  refine G_iaddN (pc := 8) dX10_mayPlay_8 ?_
  refine G_icmp_eq (pc := 9) (tgt := 24) dX10_mayPlay_9 (by decide) (fun c9 => ?_) (fun c9 => ?_)
  · skip
    refine G_iconst (pc := 24) (v := nI 1) dX10_mayPlay_24 (by first | rfl | decide) ?_
    refine G_goto (pc := 25) (tgt := 29) dX10_mayPlay_25 (by decide) ?_
    refine G_istore (pc := 29) dX10_mayPlay_29 (by decide) ?_
    refine G_aload_n (pc := 31) dX10_mayPlay_31 rfl ?_
    refine M_arr (pc := 32) (a := 1900102) hS fl_X10_13 rfl rfl dX10_mayPlay_32 ?_
    refine G_iload_n (pc := 35) dX10_mayPlay_35 rfl ?_
    refine M_bldv (pc := 36) (kk := 2) (j := t) (v := F 102 t) rfl hS rfl rfl rfl ht dX10_mayPlay_36 ?_
    refine G_if_ne (pc := 37) (tgt := 63) dX10_mayPlay_37 (by decide) (fun c37 => ?_) (fun c37 => ?_)
    · skip
      refine G_iconst (pc := 63) (v := nI 0) dX10_mayPlay_63 (by first | rfl | decide) ?_
      refine G_zret (pc := 64) VZ.n dX10_mayPlay_64 rfl (by first | exact Or.inl rfl | exact Or.inr rfl | exact b2_or _ | assumption) ⟨by decide, by decide⟩ ?_
      refine ⟨congrArg (fun z => some (Value.int z)) ?_, rfl⟩
      symm
      first
        | exact b2_t ⟨c37, c46, Or.inl c51⟩
        | exact b2_t ⟨c37, c46, Or.inr (Or.inl c9)⟩
        | exact b2_t ⟨c37, c46, Or.inr (Or.inr c21)⟩
        | exact b2_f (fun g => c37 g.1)
        | exact b2_f (fun g => c46 g.2.1)
        | exact b2_f (fun g => g.2.2.elim (fun e => e c51) (fun e => e.elim c9 c21))
    · skip
      refine G_aload_n (pc := 40) dX10_mayPlay_40 rfl ?_
      refine M_arr (pc := 41) (a := 1900104) hS fl_X10_21 rfl rfl dX10_mayPlay_41 ?_
      refine G_iload_n (pc := 44) dX10_mayPlay_44 rfl ?_
      refine M_ldv (pc := 45) (kk := 4) (j := t) (v := F 104 t) rfl hS rfl rfl rfl ht dX10_mayPlay_45 ?_
      refine G_if_ne (pc := 46) (tgt := 63) dX10_mayPlay_46 (by decide) (fun c46 => ?_) (fun c46 => ?_)
      · skip
        refine G_iconst (pc := 63) (v := nI 0) dX10_mayPlay_63 (by first | rfl | decide) ?_
        refine G_zret (pc := 64) VZ.n dX10_mayPlay_64 rfl (by first | exact Or.inl rfl | exact Or.inr rfl | exact b2_or _ | assumption) ⟨by decide, by decide⟩ ?_
        refine ⟨congrArg (fun z => some (Value.int z)) ?_, rfl⟩
        symm
        first
          | exact b2_t ⟨c37, c46, Or.inl c51⟩
          | exact b2_t ⟨c37, c46, Or.inr (Or.inl c9)⟩
          | exact b2_t ⟨c37, c46, Or.inr (Or.inr c21)⟩
          | exact b2_f (fun g => c37 g.1)
          | exact b2_f (fun g => c46 g.2.1)
          | exact b2_f (fun g => g.2.2.elim (fun e => e c51) (fun e => e.elim c9 c21))
      · skip
        refine G_iload (pc := 49) dX10_mayPlay_49 rfl ?_
        refine G_if_ne (pc := 51) (tgt := 59) dX10_mayPlay_51 (by decide) (fun c51 => ?_) (fun c51 => ?_)
        · skip
          refine G_iconst (pc := 59) (v := nI 1) dX10_mayPlay_59 (by first | rfl | decide) ?_
          refine G_goto (pc := 60) (tgt := 64) dX10_mayPlay_60 (by decide) ?_
          refine G_zret (pc := 64) VZ.n dX10_mayPlay_64 rfl (by first | exact Or.inl rfl | exact Or.inr rfl | exact b2_or _ | assumption) ⟨by decide, by decide⟩ ?_
          refine ⟨congrArg (fun z => some (Value.int z)) ?_, rfl⟩
          symm
          first
            | exact b2_t ⟨c37, c46, Or.inl c51⟩
            | exact b2_t ⟨c37, c46, Or.inr (Or.inl c9)⟩
            | exact b2_t ⟨c37, c46, Or.inr (Or.inr c21)⟩
            | exact b2_f (fun g => c37 g.1)
            | exact b2_f (fun g => c46 g.2.1)
            | exact b2_f (fun g => g.2.2.elim (fun e => e c51) (fun e => e.elim c9 c21))
        · skip
          refine G_iload (pc := 54) dX10_mayPlay_54 rfl ?_
          refine G_if_eqN (pc := 56) (tgt := 63) (by omega) dX10_mayPlay_56 (by decide) (fun h => absurd h (by decide)) (fun _ => ?_)
          refine G_iconst (pc := 59) (v := nI 1) dX10_mayPlay_59 (by first | rfl | decide) ?_
          refine G_goto (pc := 60) (tgt := 64) dX10_mayPlay_60 (by decide) ?_
          refine G_zret (pc := 64) VZ.n dX10_mayPlay_64 rfl (by first | exact Or.inl rfl | exact Or.inr rfl | exact b2_or _ | assumption) ⟨by decide, by decide⟩ ?_
          refine ⟨congrArg (fun z => some (Value.int z)) ?_, rfl⟩
          symm
          first
            | exact b2_t ⟨c37, c46, Or.inl c51⟩
            | exact b2_t ⟨c37, c46, Or.inr (Or.inl c9)⟩
            | exact b2_t ⟨c37, c46, Or.inr (Or.inr c21)⟩
            | exact b2_f (fun g => c37 g.1)
            | exact b2_f (fun g => c46 g.2.1)
            | exact b2_f (fun g => g.2.2.elim (fun e => e c51) (fun e => e.elim c9 c21))
  · skip
    refine G_aload_n (pc := 12) dX10_mayPlay_12 rfl ?_
    refine M_arr (pc := 13) (a := 1900103) hS fl_X10_17 rfl rfl dX10_mayPlay_13 ?_
    refine G_iload_n (pc := 16) dX10_mayPlay_16 rfl ?_
    refine M_ldv (pc := 17) (kk := 3) (j := t) (v := F 103 t) rfl hS rfl rfl rfl ht dX10_mayPlay_17 ?_
    refine G_iload_n (pc := 18) dX10_mayPlay_18 rfl ?_
    refine G_iconst (pc := 19) (v := nI 1) dX10_mayPlay_19 (by first | rfl | decide) ?_
    refine G_iaddN (pc := 20) dX10_mayPlay_20 ?_
    refine G_icmp_ne (pc := 21) (tgt := 28) dX10_mayPlay_21 (by decide) (fun c21 => ?_) (fun c21 => ?_)
    · skip
      refine G_iconst (pc := 28) (v := nI 0) dX10_mayPlay_28 (by first | rfl | decide) ?_
      refine G_istore (pc := 29) dX10_mayPlay_29 (by decide) ?_
      refine G_aload_n (pc := 31) dX10_mayPlay_31 rfl ?_
      refine M_arr (pc := 32) (a := 1900102) hS fl_X10_13 rfl rfl dX10_mayPlay_32 ?_
      refine G_iload_n (pc := 35) dX10_mayPlay_35 rfl ?_
      refine M_bldv (pc := 36) (kk := 2) (j := t) (v := F 102 t) rfl hS rfl rfl rfl ht dX10_mayPlay_36 ?_
      refine G_if_ne (pc := 37) (tgt := 63) dX10_mayPlay_37 (by decide) (fun c37 => ?_) (fun c37 => ?_)
      · skip
        refine G_iconst (pc := 63) (v := nI 0) dX10_mayPlay_63 (by first | rfl | decide) ?_
        refine G_zret (pc := 64) VZ.n dX10_mayPlay_64 rfl (by first | exact Or.inl rfl | exact Or.inr rfl | exact b2_or _ | assumption) ⟨by decide, by decide⟩ ?_
        refine ⟨congrArg (fun z => some (Value.int z)) ?_, rfl⟩
        symm
        first
          | exact b2_t ⟨c37, c46, Or.inl c51⟩
          | exact b2_t ⟨c37, c46, Or.inr (Or.inl c9)⟩
          | exact b2_t ⟨c37, c46, Or.inr (Or.inr c21)⟩
          | exact b2_f (fun g => c37 g.1)
          | exact b2_f (fun g => c46 g.2.1)
          | exact b2_f (fun g => g.2.2.elim (fun e => e c51) (fun e => e.elim c9 c21))
      · skip
        refine G_aload_n (pc := 40) dX10_mayPlay_40 rfl ?_
        refine M_arr (pc := 41) (a := 1900104) hS fl_X10_21 rfl rfl dX10_mayPlay_41 ?_
        refine G_iload_n (pc := 44) dX10_mayPlay_44 rfl ?_
        refine M_ldv (pc := 45) (kk := 4) (j := t) (v := F 104 t) rfl hS rfl rfl rfl ht dX10_mayPlay_45 ?_
        refine G_if_ne (pc := 46) (tgt := 63) dX10_mayPlay_46 (by decide) (fun c46 => ?_) (fun c46 => ?_)
        · skip
          refine G_iconst (pc := 63) (v := nI 0) dX10_mayPlay_63 (by first | rfl | decide) ?_
          refine G_zret (pc := 64) VZ.n dX10_mayPlay_64 rfl (by first | exact Or.inl rfl | exact Or.inr rfl | exact b2_or _ | assumption) ⟨by decide, by decide⟩ ?_
          refine ⟨congrArg (fun z => some (Value.int z)) ?_, rfl⟩
          symm
          first
            | exact b2_t ⟨c37, c46, Or.inl c51⟩
            | exact b2_t ⟨c37, c46, Or.inr (Or.inl c9)⟩
            | exact b2_t ⟨c37, c46, Or.inr (Or.inr c21)⟩
            | exact b2_f (fun g => c37 g.1)
            | exact b2_f (fun g => c46 g.2.1)
            | exact b2_f (fun g => g.2.2.elim (fun e => e c51) (fun e => e.elim c9 c21))
        · skip
          refine G_iload (pc := 49) dX10_mayPlay_49 rfl ?_
          refine G_if_ne (pc := 51) (tgt := 59) dX10_mayPlay_51 (by decide) (fun c51 => ?_) (fun c51 => ?_)
          · skip
            refine G_iconst (pc := 59) (v := nI 1) dX10_mayPlay_59 (by first | rfl | decide) ?_
            refine G_goto (pc := 60) (tgt := 64) dX10_mayPlay_60 (by decide) ?_
            refine G_zret (pc := 64) VZ.n dX10_mayPlay_64 rfl (by first | exact Or.inl rfl | exact Or.inr rfl | exact b2_or _ | assumption) ⟨by decide, by decide⟩ ?_
            refine ⟨congrArg (fun z => some (Value.int z)) ?_, rfl⟩
            symm
            first
              | exact b2_t ⟨c37, c46, Or.inl c51⟩
              | exact b2_t ⟨c37, c46, Or.inr (Or.inl c9)⟩
              | exact b2_t ⟨c37, c46, Or.inr (Or.inr c21)⟩
              | exact b2_f (fun g => c37 g.1)
              | exact b2_f (fun g => c46 g.2.1)
              | exact b2_f (fun g => g.2.2.elim (fun e => e c51) (fun e => e.elim c9 c21))
          · skip
            refine G_iload (pc := 54) dX10_mayPlay_54 rfl ?_
            refine G_if_eqN (pc := 56) (tgt := 63) (by omega) dX10_mayPlay_56 (by decide) (fun _ => ?_) (fun h => absurd h (by decide))
            refine G_iconst (pc := 63) (v := nI 0) dX10_mayPlay_63 (by first | rfl | decide) ?_
            refine G_zret (pc := 64) VZ.n dX10_mayPlay_64 rfl (by first | exact Or.inl rfl | exact Or.inr rfl | exact b2_or _ | assumption) ⟨by decide, by decide⟩ ?_
            refine ⟨congrArg (fun z => some (Value.int z)) ?_, rfl⟩
            symm
            first
              | exact b2_t ⟨c37, c46, Or.inl c51⟩
              | exact b2_t ⟨c37, c46, Or.inr (Or.inl c9)⟩
              | exact b2_t ⟨c37, c46, Or.inr (Or.inr c21)⟩
              | exact b2_f (fun g => c37 g.1)
              | exact b2_f (fun g => c46 g.2.1)
              | exact b2_f (fun g => g.2.2.elim (fun e => e c51) (fun e => e.elim c9 c21))
    · skip
      refine G_iconst (pc := 24) (v := nI 1) dX10_mayPlay_24 (by first | rfl | decide) ?_
      refine G_goto (pc := 25) (tgt := 29) dX10_mayPlay_25 (by decide) ?_
      refine G_istore (pc := 29) dX10_mayPlay_29 (by decide) ?_
      refine G_aload_n (pc := 31) dX10_mayPlay_31 rfl ?_
      refine M_arr (pc := 32) (a := 1900102) hS fl_X10_13 rfl rfl dX10_mayPlay_32 ?_
      refine G_iload_n (pc := 35) dX10_mayPlay_35 rfl ?_
      refine M_bldv (pc := 36) (kk := 2) (j := t) (v := F 102 t) rfl hS rfl rfl rfl ht dX10_mayPlay_36 ?_
      refine G_if_ne (pc := 37) (tgt := 63) dX10_mayPlay_37 (by decide) (fun c37 => ?_) (fun c37 => ?_)
      · skip
        refine G_iconst (pc := 63) (v := nI 0) dX10_mayPlay_63 (by first | rfl | decide) ?_
        refine G_zret (pc := 64) VZ.n dX10_mayPlay_64 rfl (by first | exact Or.inl rfl | exact Or.inr rfl | exact b2_or _ | assumption) ⟨by decide, by decide⟩ ?_
        refine ⟨congrArg (fun z => some (Value.int z)) ?_, rfl⟩
        symm
        first
          | exact b2_t ⟨c37, c46, Or.inl c51⟩
          | exact b2_t ⟨c37, c46, Or.inr (Or.inl c9)⟩
          | exact b2_t ⟨c37, c46, Or.inr (Or.inr c21)⟩
          | exact b2_f (fun g => c37 g.1)
          | exact b2_f (fun g => c46 g.2.1)
          | exact b2_f (fun g => g.2.2.elim (fun e => e c51) (fun e => e.elim c9 c21))
      · skip
        refine G_aload_n (pc := 40) dX10_mayPlay_40 rfl ?_
        refine M_arr (pc := 41) (a := 1900104) hS fl_X10_21 rfl rfl dX10_mayPlay_41 ?_
        refine G_iload_n (pc := 44) dX10_mayPlay_44 rfl ?_
        refine M_ldv (pc := 45) (kk := 4) (j := t) (v := F 104 t) rfl hS rfl rfl rfl ht dX10_mayPlay_45 ?_
        refine G_if_ne (pc := 46) (tgt := 63) dX10_mayPlay_46 (by decide) (fun c46 => ?_) (fun c46 => ?_)
        · skip
          refine G_iconst (pc := 63) (v := nI 0) dX10_mayPlay_63 (by first | rfl | decide) ?_
          refine G_zret (pc := 64) VZ.n dX10_mayPlay_64 rfl (by first | exact Or.inl rfl | exact Or.inr rfl | exact b2_or _ | assumption) ⟨by decide, by decide⟩ ?_
          refine ⟨congrArg (fun z => some (Value.int z)) ?_, rfl⟩
          symm
          first
            | exact b2_t ⟨c37, c46, Or.inl c51⟩
            | exact b2_t ⟨c37, c46, Or.inr (Or.inl c9)⟩
            | exact b2_t ⟨c37, c46, Or.inr (Or.inr c21)⟩
            | exact b2_f (fun g => c37 g.1)
            | exact b2_f (fun g => c46 g.2.1)
            | exact b2_f (fun g => g.2.2.elim (fun e => e c51) (fun e => e.elim c9 c21))
        · skip
          refine G_iload (pc := 49) dX10_mayPlay_49 rfl ?_
          refine G_if_ne (pc := 51) (tgt := 59) dX10_mayPlay_51 (by decide) (fun c51 => ?_) (fun c51 => ?_)
          · skip
            refine G_iconst (pc := 59) (v := nI 1) dX10_mayPlay_59 (by first | rfl | decide) ?_
            refine G_goto (pc := 60) (tgt := 64) dX10_mayPlay_60 (by decide) ?_
            refine G_zret (pc := 64) VZ.n dX10_mayPlay_64 rfl (by first | exact Or.inl rfl | exact Or.inr rfl | exact b2_or _ | assumption) ⟨by decide, by decide⟩ ?_
            refine ⟨congrArg (fun z => some (Value.int z)) ?_, rfl⟩
            symm
            first
              | exact b2_t ⟨c37, c46, Or.inl c51⟩
              | exact b2_t ⟨c37, c46, Or.inr (Or.inl c9)⟩
              | exact b2_t ⟨c37, c46, Or.inr (Or.inr c21)⟩
              | exact b2_f (fun g => c37 g.1)
              | exact b2_f (fun g => c46 g.2.1)
              | exact b2_f (fun g => g.2.2.elim (fun e => e c51) (fun e => e.elim c9 c21))
          · skip
            refine G_iload (pc := 54) dX10_mayPlay_54 rfl ?_
            refine G_if_eqN (pc := 56) (tgt := 63) (by omega) dX10_mayPlay_56 (by decide) (fun h => absurd h (by decide)) (fun _ => ?_)
            refine G_iconst (pc := 59) (v := nI 1) dX10_mayPlay_59 (by first | rfl | decide) ?_
            refine G_goto (pc := 60) (tgt := 64) dX10_mayPlay_60 (by decide) ?_
            refine G_zret (pc := 64) VZ.n dX10_mayPlay_64 rfl (by first | exact Or.inl rfl | exact Or.inr rfl | exact b2_or _ | assumption) ⟨by decide, by decide⟩ ?_
            refine ⟨congrArg (fun z => some (Value.int z)) ?_, rfl⟩
            symm
            first
              | exact b2_t ⟨c37, c46, Or.inl c51⟩
              | exact b2_t ⟨c37, c46, Or.inr (Or.inl c9)⟩
              | exact b2_t ⟨c37, c46, Or.inr (Or.inr c21)⟩
              | exact b2_f (fun g => c37 g.1)
              | exact b2_f (fun g => c46 g.2.1)
              | exact b2_f (fun g => g.2.2.elim (fun e => e c51) (fun e => e.elim c9 c21))
theorem C_asksN {Γ : GTy} {Y : HS} (hS : MS Y) (F : FT) {f n : Nat} (hf : f < n) (hn : F 10 0 = nI n) (n20 : n ≤ 20) : Tn Γ M_X10_asks [.ref 900000, .int (nI f)] (wM Y F) (rt (some (.int (nI 1))) (wM Y (thr F (nI 0)))) := by
  refine Tn_of' rfl rfl rfl ?_
  show G Γ M_X10_asks (rm M_X10_asks) (Vn Γ M_X10_asks (rt (some (.int (nI 1))) (wM Y (thr F (nI 0))))) (0, 0) 0 [some (.ref 900000), some (.int (nI f))] [] (wM Y F)
  refine G_aload_n (pc := 0) dX10_asks_0 rfl ?_
  refine G_iload_n (pc := 1) dX10_asks_1 rfl ?_
  refine G_iconst (pc := 2) (v := nI 0) dX10_asks_2 (by first | rfl | decide) ?_
  refine G_aload_n (pc := 3) dX10_asks_3 rfl ?_
  refine M_getv (pc := 4) (kk := 10) (v := nI n) hn hS fl_X10_103 rfl dX10_asks_4 ?_
  refine G_iconst (pc := 7) (v := nI 1) dX10_asks_7 (by first | rfl | decide) ?_
  refine G_isub (pc := 8) dX10_asks_8 ?_
  refine K_Sn3r (pc := 9) (k' := (0, 0)) mok_X10_isIn lk_X10_75 rfl (aok0 rfl) dX10_asks_9 (C_isIn _ _ _ _) rfl ?_
  refine G_if_eqB (pc := 12) (tgt := 19) dX10_asks_12 (by decide) (fun c12 => ?_) (fun c12 => ?_)
  · exact absurd (asks_in hf (by omega)) c12
  · skip
    refine G_iconst (pc := 15) (v := nI 0) dX10_asks_15 (by first | rfl | decide) ?_
    refine G_goto (pc := 16) (tgt := 20) dX10_asks_16 (by decide) ?_
    refine M_put (pc := 20) hS fl_X10_72 fw_9_25 rfl dX10_asks_20 ?_
    refine G_aload_n (pc := 23) dX10_asks_23 rfl ?_
    refine M_get (pc := 24) hS fl_X10_72 rfl dX10_asks_24 ?_
    show G _ _ _ _ _ _ _ (.int (nI 0) :: _) _
    refine G_if_neN (pc := 27) (tgt := 34) (by omega) dX10_asks_27 (by decide) (fun h => absurd h (by decide)) (fun _ => ?_)
    refine G_iconst (pc := 30) (v := nI 1) dX10_asks_30 (by first | rfl | decide) ?_
    refine G_goto (pc := 31) (tgt := 35) dX10_asks_31 (by decide) ?_
    refine G_zret (pc := 35) VZ.n dX10_asks_35 rfl (by first | exact Or.inl rfl | exact Or.inr rfl | exact b2_or _ | assumption) ⟨by decide, by decide⟩ ?_
    exact ⟨rfl, rfl⟩
theorem C_asksX {Γ : GTy} {Y : HS} (hS : MS Y) (F : FT) {x : Int32} {n : Nat} (hn : F 10 0 = nI n) (hx : ¬ (nI 0 ≤ x ∧ x ≤ nI n - nI 1)) : Tn Γ M_X10_asks [.ref 900000, .int x] (wM Y F) (rt (some (.int (nI 0))) (wM Y (thr F (nI 1)))) := by
  refine Tn_of' rfl rfl rfl ?_
  show G Γ M_X10_asks (rm M_X10_asks) (Vn Γ M_X10_asks (rt (some (.int (nI 0))) (wM Y (thr F (nI 1))))) (0, 0) 0 [some (.ref 900000), some (.int x)] [] (wM Y F)
  refine G_aload_n (pc := 0) dX10_asks_0 rfl ?_
  refine G_iload_n (pc := 1) dX10_asks_1 rfl ?_
  refine G_iconst (pc := 2) (v := nI 0) dX10_asks_2 (by first | rfl | decide) ?_
  refine G_aload_n (pc := 3) dX10_asks_3 rfl ?_
  refine M_getv (pc := 4) (kk := 10) (v := nI n) hn hS fl_X10_103 rfl dX10_asks_4 ?_
  refine G_iconst (pc := 7) (v := nI 1) dX10_asks_7 (by first | rfl | decide) ?_
  refine G_isub (pc := 8) dX10_asks_8 ?_
  refine K_Sn3r (pc := 9) (k' := (0, 0)) mok_X10_isIn lk_X10_75 rfl (aok0 rfl) dX10_asks_9 (C_isIn _ _ _ _) rfl ?_
  refine G_if_eqB (pc := 12) (tgt := 19) dX10_asks_12 (by decide) (fun c12 => ?_) (fun c12 => ?_)
  · skip
    refine G_iconst (pc := 19) (v := nI 1) dX10_asks_19 (by first | rfl | decide) ?_
    refine M_put (pc := 20) hS fl_X10_72 fw_9_25 rfl dX10_asks_20 ?_
    refine G_aload_n (pc := 23) dX10_asks_23 rfl ?_
    refine M_get (pc := 24) hS fl_X10_72 rfl dX10_asks_24 ?_
    show G _ _ _ _ _ _ _ (.int (nI 1) :: _) _
    refine G_if_neN (pc := 27) (tgt := 34) (by omega) dX10_asks_27 (by decide) (fun _ => ?_) (fun h => absurd h (by decide))
    refine G_iconst (pc := 34) (v := nI 0) dX10_asks_34 (by first | rfl | decide) ?_
    refine G_zret (pc := 35) VZ.n dX10_asks_35 rfl (by first | exact Or.inl rfl | exact Or.inr rfl | exact b2_or _ | assumption) ⟨by decide, by decide⟩ ?_
    exact ⟨rfl, rfl⟩
  · exact absurd c12 hx
theorem C_beginX {Γ : GTy} {Y : HS} (hS : MS Y) (F : FT) {x y y2 z : Int32} (hx : ¬ ((nI 0 ≤ x ∧ x ≤ nI 3) ∧ (nI 0 ≤ y ∧ y ≤ nI 7) ∧ (nI 0 ≤ y2 ∧ y2 ≤ nI 7))) : Tn Γ M_X10_begin [.ref 900000, .int x, .int y, .int y2, .int z] (wM Y F) (rt (some (.int (nI 0))) (wM Y (thr F (nI 1)))) := by
  refine Tn_of' rfl rfl rfl ?_
  show G Γ M_X10_begin (rm M_X10_begin) (Vn Γ M_X10_begin (rt (some (.int (nI 0))) (wM Y (thr F (nI 1))))) (0, 0) 0 [some (.ref 900000), some (.int x), some (.int y), some (.int y2), some (.int z), none, none] [] (wM Y F)
  refine G_aload_n (pc := 0) dX10_begin_0 rfl ?_
  refine G_iload_n (pc := 1) dX10_begin_1 rfl ?_
  refine K_Sn1r (pc := 2) (k' := (0, 0)) mok_X10_isTable lk_X10_79 rfl (aok0 rfl) dX10_begin_2 (C_isTable _ _) rfl ?_
  refine G_if_eqB (pc := 5) (tgt := 26) dX10_begin_5 (by decide) (fun c5 => ?_) (fun c5 => ?_)
  · skip
    refine G_iconst (pc := 26) (v := nI 1) dX10_begin_26 (by first | rfl | decide) ?_
    refine M_put (pc := 27) hS fl_X10_72 fw_9_25 rfl dX10_begin_27 ?_
    refine G_aload_n (pc := 30) dX10_begin_30 rfl ?_
    refine M_get (pc := 31) hS fl_X10_72 rfl dX10_begin_31 ?_
    show G _ _ _ _ _ _ _ (.int (nI 1) :: _) _
    refine G_if_leN (pc := 34) (tgt := 39) (by omega) dX10_begin_34 (by decide) (fun h => absurd h (by decide)) (fun _ => ?_)
    refine G_iconst (pc := 37) (v := nI 0) dX10_begin_37 (by first | rfl | decide) ?_
    refine G_iret (pc := 38) VZ.n dX10_begin_38 rfl ⟨by decide, by decide⟩ ?_
    exact ⟨rfl, rfl⟩
  · skip
    refine G_iload_n (pc := 8) dX10_begin_8 rfl ?_
    refine K_Sn1r (pc := 9) (k' := (0, 0)) mok_X10_isCustomer lk_X10_83 rfl (aok0 rfl) dX10_begin_9 (C_isCustomer _ _) rfl ?_
    refine G_if_eqB (pc := 12) (tgt := 26) dX10_begin_12 (by decide) (fun c12 => ?_) (fun c12 => ?_)
    · skip
      refine G_iconst (pc := 26) (v := nI 1) dX10_begin_26 (by first | rfl | decide) ?_
      refine M_put (pc := 27) hS fl_X10_72 fw_9_25 rfl dX10_begin_27 ?_
      refine G_aload_n (pc := 30) dX10_begin_30 rfl ?_
      refine M_get (pc := 31) hS fl_X10_72 rfl dX10_begin_31 ?_
      show G _ _ _ _ _ _ _ (.int (nI 1) :: _) _
      refine G_if_leN (pc := 34) (tgt := 39) (by omega) dX10_begin_34 (by decide) (fun h => absurd h (by decide)) (fun _ => ?_)
      refine G_iconst (pc := 37) (v := nI 0) dX10_begin_37 (by first | rfl | decide) ?_
      refine G_iret (pc := 38) VZ.n dX10_begin_38 rfl ⟨by decide, by decide⟩ ?_
      exact ⟨rfl, rfl⟩
    · skip
      refine G_iload_n (pc := 15) dX10_begin_15 rfl ?_
      refine K_Sn1r (pc := 16) (k' := (0, 0)) mok_X10_isCustomer lk_X10_83 rfl (aok0 rfl) dX10_begin_16 (C_isCustomer _ _) rfl ?_
      refine G_if_eqB (pc := 19) (tgt := 26) dX10_begin_19 (by decide) (fun c19 => ?_) (fun c19 => ?_)
      · skip
        refine G_iconst (pc := 26) (v := nI 1) dX10_begin_26 (by first | rfl | decide) ?_
        refine M_put (pc := 27) hS fl_X10_72 fw_9_25 rfl dX10_begin_27 ?_
        refine G_aload_n (pc := 30) dX10_begin_30 rfl ?_
        refine M_get (pc := 31) hS fl_X10_72 rfl dX10_begin_31 ?_
        show G _ _ _ _ _ _ _ (.int (nI 1) :: _) _
        refine G_if_leN (pc := 34) (tgt := 39) (by omega) dX10_begin_34 (by decide) (fun h => absurd h (by decide)) (fun _ => ?_)
        refine G_iconst (pc := 37) (v := nI 0) dX10_begin_37 (by first | rfl | decide) ?_
        refine G_iret (pc := 38) VZ.n dX10_begin_38 rfl ⟨by decide, by decide⟩ ?_
        exact ⟨rfl, rfl⟩
      · exact absurd ⟨c5, c12, c19⟩ hx
/-- balls by their spots -/
def bF (F : FT) (n i : Nat) : FT := fun s j => if s = 118 ∧ 8 * n ≤ j ∧ j < 8 * n + i then nI (spN (j - 8 * n)) else F s j
theorem bF_0 (F : FT) (n : Nat) : bF F n 0 = F := by
  funext s j
  exact if_neg (fun h => by omega)
theorem bF_s (F : FT) (n i : Nat) : u2 (bF F n i) 118 (8 * n + i) (nI (spN i)) = bF F n (i + 1) := by
  funext s j
  simp only [u2, bF]
  by_cases h : s = 118 ∧ j = 8 * n + i
  · obtain ⟨rfl, rfl⟩ := h
    rw [if_pos ⟨rfl, rfl⟩, if_pos ⟨rfl, by omega, by omega⟩, show 8 * n + i - 8 * n = i by omega]
  · rw [if_neg h]
    by_cases g : s = 118 ∧ 8 * n ≤ j ∧ j < 8 * n + i
    · rw [if_pos g, if_pos ⟨g.1, g.2.1, by omega⟩]
    · rw [if_neg g, if_neg (fun q => h ⟨q.1, by have := q.2.2; have := q.2.1; by_cases e : j < 8 * n + i; exact absurd ⟨q.1, q.2.1, e⟩ g; omega⟩)]
def mB0 (F : FT) (a b n : Nat) (z : Int32) : FT := u2 (u2 (u2 (u2 (u2 (thr (thr F (nI 0)) (nI 0)) 10 0 (nI (n + 1))) 111 (2 * n) (nI a)) 111 (2 * n + 1) (nI b)) 112 n z) 117 n (-1)
def mBegin (F : FT) (t a b n : Nat) (z : Int32) : Int32 × FT :=
  if a = b then (nI 0, thr (thr F (nI 0)) (nI 2)) else if n = 20 then (nI 0, thr (thr F (nI 0)) (nI 3)) else if (F 102 t = 0 ∧ F 104 t = 0 ∧ (¬ z = 0 ∨ (F 103 t = nI (a + 1) ∨ F 103 t = nI (b + 1)))) then (nI n, u2 (bF (mB0 F a b n z) n 8) 104 t (nI (n + 1))) else (nI 0, thr (thr F (nI 0)) (nI 3))
theorem C_beginN {Γ : GTy} {Y : HS} (hS : MS Y) (F : FT) {t a b n : Nat} {z : Int32} (ht : t < 4) (ha : a < 8) (hb : b < 8) (hz : z = 0 ∨ z = 1) (hn : F 10 0 = nI n) (n20 : n ≤ 20) : Tn Γ M_X10_begin [.ref 900000, .int (nI t), .int (nI a), .int (nI b), .int z] (wM Y F) (rt (some (.int (mBegin F t a b n z).1)) (wM Y (mBegin F t a b n z).2)) := by
  refine Tn_of' rfl rfl rfl ?_
  show G Γ M_X10_begin (rm M_X10_begin) (Vn Γ M_X10_begin (rt (some (.int (mBegin F t a b n z).1)) (wM Y (mBegin F t a b n z).2))) (0, 0) 0 [some (.ref 900000), some (.int (nI t)), some (.int (nI a)), some (.int (nI b)), some (.int z), none, none] [] (wM Y F)
  refine G_aload_n (pc := 0) dX10_begin_0 rfl ?_
  refine G_iload_n (pc := 1) dX10_begin_1 rfl ?_
  refine K_Sn1r (pc := 2) (k' := (0, 0)) mok_X10_isTable lk_X10_79 rfl (aok0 rfl) dX10_begin_2 (C_isTableN ht _) rfl ?_
  refine G_if_eqN (pc := 5) (tgt := 26) (by omega) dX10_begin_5 (by decide) (fun h => absurd h (by decide)) (fun _ => ?_)
  refine G_iload_n (pc := 8) dX10_begin_8 rfl ?_
  refine K_Sn1r (pc := 9) (k' := (0, 0)) mok_X10_isCustomer lk_X10_83 rfl (aok0 rfl) dX10_begin_9 (C_isCustomerN ha _) rfl ?_
  refine G_if_eqN (pc := 12) (tgt := 26) (by omega) dX10_begin_12 (by decide) (fun h => absurd h (by decide)) (fun _ => ?_)
  refine G_iload_n (pc := 15) dX10_begin_15 rfl ?_
  refine K_Sn1r (pc := 16) (k' := (0, 0)) mok_X10_isCustomer lk_X10_83 rfl (aok0 rfl) dX10_begin_16 (C_isCustomerN hb _) rfl ?_
  refine G_if_eqN (pc := 19) (tgt := 26) (by omega) dX10_begin_19 (by decide) (fun h => absurd h (by decide)) (fun _ => ?_)
  refine G_iconst (pc := 22) (v := nI 0) dX10_begin_22 (by first | rfl | decide) ?_
  refine G_goto (pc := 23) (tgt := 27) dX10_begin_23 (by decide) ?_
  refine M_put (pc := 27) hS fl_X10_72 fw_9_25 rfl dX10_begin_27 ?_
  refine G_aload_n (pc := 30) dX10_begin_30 rfl ?_
  refine M_get (pc := 31) hS fl_X10_72 rfl dX10_begin_31 ?_
  show G _ _ _ _ _ _ _ (.int (nI 0) :: _) _
  refine G_if_leN (pc := 34) (tgt := 39) (by omega) dX10_begin_34 (by decide) (fun _ => ?_) (fun h => absurd h (by decide))
  refine G_aload_n (pc := 39) dX10_begin_39 rfl ?_
  refine G_iload_n (pc := 40) dX10_begin_40 rfl ?_
  refine G_iload_n (pc := 41) dX10_begin_41 rfl ?_
  refine G_icmp_neN (pc := 42) (tgt := 49) (by omega) (by omega) dX10_begin_42 (by decide) (fun c42 => ?_) (fun c42 => ?_)
  · skip
    refine G_aload_n (pc := 49) dX10_begin_49 rfl ?_
    refine M_getv (pc := 50) (kk := 10) (v := nI n) hn hS fl_X10_103 rfl dX10_begin_50 ?_
    refine G_bipush (pc := 53) (v := nI 20) dX10_begin_53 (by first | rfl | decide) ?_
    refine G_icmp_eqN (pc := 55) (tgt := 70) (by omega) (by omega) dX10_begin_55 (by decide) (fun c55 => ?_) (fun c55 => ?_)
    · skip
      refine G_iconst (pc := 70) (v := nI 3) dX10_begin_70 (by first | rfl | decide) ?_
      refine G_goto (pc := 71) (tgt := 75) dX10_begin_71 (by decide) ?_
      refine M_put (pc := 75) hS fl_X10_72 fw_9_25 rfl dX10_begin_75 ?_
      refine G_aload_n (pc := 78) dX10_begin_78 rfl ?_
      refine M_get (pc := 79) hS fl_X10_72 rfl dX10_begin_79 ?_
      show G _ _ _ _ _ _ _ (.int (nI 3) :: _) _
      refine G_if_leN (pc := 82) (tgt := 87) (by omega) dX10_begin_82 (by decide) (fun h => absurd h (by decide)) (fun _ => ?_)
      refine G_iconst (pc := 85) (v := nI 0) dX10_begin_85 (by first | rfl | decide) ?_
      refine G_iret (pc := 86) VZ.n dX10_begin_86 rfl ⟨by decide, by decide⟩ ?_
      simp only [rt, mBegin]
      (first | rw [if_pos c42] | rw [if_neg c42] | skip)
      (first | rw [if_pos c55] | rw [if_neg c55] | skip)
      (first | rw [if_pos c67] | rw [if_neg c67] | skip)
      exact ⟨rfl, rfl⟩
    · skip
      refine G_aload_n (pc := 58) dX10_begin_58 rfl ?_
      refine G_iload_n (pc := 59) dX10_begin_59 rfl ?_
      refine G_iload_n (pc := 60) dX10_begin_60 rfl ?_
      refine G_iload_n (pc := 61) dX10_begin_61 rfl ?_
      refine G_iload (pc := 62) dX10_begin_62 rfl ?_
      refine K_Vn4r (pc := 64) (k' := (0, 0)) mok_X10_mayPlay lk_X10_106 hS.1 rfl rfl rfl (aok0 rfl) dX10_begin_64 (C_mayPlay hS _ ht) rfl ?_
      show G _ _ _ _ _ _ _ (.int (b2 (F 102 t = 0 ∧ F 104 t = 0 ∧ (¬ z = 0 ∨ (F 103 t = nI (a + 1) ∨ F 103 t = nI (b + 1))))) :: _) _
      refine G_if_neB (pc := 67) (tgt := 74) dX10_begin_67 (by decide) (fun c67 => ?_) (fun c67 => ?_)
      · skip
        refine G_iconst (pc := 74) (v := nI 0) dX10_begin_74 (by first | rfl | decide) ?_
        refine M_put (pc := 75) hS fl_X10_72 fw_9_25 rfl dX10_begin_75 ?_
        refine G_aload_n (pc := 78) dX10_begin_78 rfl ?_
        refine M_get (pc := 79) hS fl_X10_72 rfl dX10_begin_79 ?_
        show G _ _ _ _ _ _ _ (.int (nI 0) :: _) _
        refine G_if_leN (pc := 82) (tgt := 87) (by omega) dX10_begin_82 (by decide) (fun _ => ?_) (fun h => absurd h (by decide))
        refine G_aload_n (pc := 87) dX10_begin_87 rfl ?_
        refine M_getv (pc := 88) (kk := 10) (v := nI n) hn hS fl_X10_103 rfl dX10_begin_88 ?_
        refine G_istore (pc := 91) dX10_begin_91 (by decide) ?_
        refine G_aload_n (pc := 93) dX10_begin_93 rfl ?_
        refine G_dup (pc := 94) dX10_begin_94 rfl ?_
        refine M_getv (pc := 95) (kk := 10) (v := nI n) hn hS fl_X10_103 rfl dX10_begin_95 ?_
        refine G_iconst (pc := 98) (v := nI 1) dX10_begin_98 (by first | rfl | decide) ?_
        refine G_iaddN (pc := 99) dX10_begin_99 ?_
        refine M_put (pc := 100) hS fl_X10_103 fw_9_10 rfl dX10_begin_100 ?_
        refine G_aload_n (pc := 103) dX10_begin_103 rfl ?_
        refine M_arr (pc := 104) (a := 1900111) hS fl_X10_39 rfl rfl dX10_begin_104 ?_
        refine G_iconst (pc := 107) (v := nI 2) dX10_begin_107 (by first | rfl | decide) ?_
        refine G_iload (pc := 108) dX10_begin_108 rfl ?_
        refine G_imulN (pc := 110) dX10_begin_110 ?_
        refine G_iload_n (pc := 111) dX10_begin_111 rfl ?_
        refine M_st (pc := 112) (kk := 11) (j := 2 * n) hS rfl rfl rfl (show 2 * n < 40 by omega) dX10_begin_112 ?_
        refine G_aload_n (pc := 113) dX10_begin_113 rfl ?_
        refine M_arr (pc := 114) (a := 1900111) hS fl_X10_39 rfl rfl dX10_begin_114 ?_
        refine G_iconst (pc := 117) (v := nI 2) dX10_begin_117 (by first | rfl | decide) ?_
        refine G_iload (pc := 118) dX10_begin_118 rfl ?_
        refine G_imulN (pc := 120) dX10_begin_120 ?_
        refine G_iconst (pc := 121) (v := nI 1) dX10_begin_121 (by first | rfl | decide) ?_
        refine G_iaddN (pc := 122) dX10_begin_122 ?_
        refine G_iload_n (pc := 123) dX10_begin_123 rfl ?_
        refine M_st (pc := 124) (kk := 11) (j := 2 * n + 1) hS rfl rfl rfl (show 2 * n + 1 < 40 by omega) dX10_begin_124 ?_
        refine G_aload_n (pc := 125) dX10_begin_125 rfl ?_
        refine M_arr (pc := 126) (a := 1900112) hS fl_X10_42 rfl rfl dX10_begin_126 ?_
        refine G_iload (pc := 129) dX10_begin_129 rfl ?_
        refine G_iload (pc := 131) dX10_begin_131 rfl ?_
        refine M_bst (pc := 133) (kk := 12) (j := n) hS rfl rfl rfl (show n < 20 by omega) (by first | exact Or.inl rfl | exact Or.inr rfl | exact b2_or _ | assumption) dX10_begin_133 ?_
        refine G_aload_n (pc := 134) dX10_begin_134 rfl ?_
        refine M_arr (pc := 135) (a := 1900117) hS fl_X10_57 rfl rfl dX10_begin_135 ?_
        refine G_iload (pc := 138) dX10_begin_138 rfl ?_
        refine G_iconst (pc := 140) (v := -1) dX10_begin_140 (by first | rfl | decide) ?_
        refine M_st (pc := 141) (kk := 17) (j := n) hS rfl rfl rfl (show n < 20 by omega) dX10_begin_141 ?_
        refine G_iconst (pc := 142) (v := nI 0) dX10_begin_142 (by first | rfl | decide) ?_
        refine G_istore (pc := 143) dX10_begin_143 (by decide) ?_
        have loop : ∀ (n9 j : Nat), j + n9 = 8 → G Γ M_X10_begin (rm M_X10_begin) (Vn Γ M_X10_begin (rt (some (.int (mBegin F t a b n z).1)) (wM Y (mBegin F t a b n z).2))) (0, 0) 145 [some (.ref 900000), some (.int (nI t)), some (.int (nI a)), some (.int (nI b)), some (.int z), some (.int (nI n)), some (.int (nI j))] [] (wM Y (bF (mB0 F a b n z) n j)) := by
            intro n9
            induction n9 with
            | zero =>
              intro j hj
              obtain rfl : j = 8 := by omega
              refine G_iload (pc := 145) dX10_begin_145 rfl ?_
              refine G_bipush (pc := 147) (v := nI 8) dX10_begin_147 (by first | rfl | decide) ?_
              refine G_icmp_geN (pc := 149) (tgt := 176) (by omega) (by omega) dX10_begin_149 (by decide) (fun c149 => ?_) (fun c149 => ?_)
              · skip
                refine G_aload_n (pc := 176) dX10_begin_176 rfl ?_
                refine M_arr (pc := 177) (a := 1900104) hS fl_X10_21 rfl rfl dX10_begin_177 ?_
                refine G_iload_n (pc := 180) dX10_begin_180 rfl ?_
                refine G_iload (pc := 181) dX10_begin_181 rfl ?_
                refine G_iconst (pc := 183) (v := nI 1) dX10_begin_183 (by first | rfl | decide) ?_
                refine G_iaddN (pc := 184) dX10_begin_184 ?_
                refine M_st (pc := 185) (kk := 4) (j := t) hS rfl rfl rfl ht dX10_begin_185 ?_
                refine G_iload (pc := 186) dX10_begin_186 rfl ?_
                refine G_iret (pc := 188) VZ.n dX10_begin_188 rfl ⟨by decide, by decide⟩ ?_
                simp only [rt, mBegin]
                rw [if_neg c42, if_neg c55, if_pos c67]
                exact ⟨rfl, rfl⟩
              · omega
            | succ n9 ih =>
              intro j hj
              have hj9 : j < 8 := by omega
              refine G_iload (pc := 145) dX10_begin_145 rfl ?_
              refine G_bipush (pc := 147) (v := nI 8) dX10_begin_147 (by first | rfl | decide) ?_
              refine G_icmp_geN (pc := 149) (tgt := 176) (by omega) (by omega) dX10_begin_149 (by decide) (fun c149 => ?_) (fun c149 => ?_)
              · omega
              · skip
                refine G_aload_n (pc := 152) dX10_begin_152 rfl ?_
                refine M_arr (pc := 153) (a := 1900118) hS fl_X10_60 rfl rfl dX10_begin_153 ?_
                refine G_bipush (pc := 156) (v := nI 8) dX10_begin_156 (by first | rfl | decide) ?_
                refine G_iload (pc := 158) dX10_begin_158 rfl ?_
                refine G_imulN (pc := 160) dX10_begin_160 ?_
                refine G_iload (pc := 161) dX10_begin_161 rfl ?_
                refine G_iaddN (pc := 163) dX10_begin_163 ?_
                refine G_iload (pc := 164) dX10_begin_164 rfl ?_
                refine K_Sn1r (pc := 166) (k' := (0, 0)) mok_X10_spot lk_X10_110 rfl (aok0 rfl) dX10_begin_166 (C_spot hj9 _) rfl ?_
                refine M_st (pc := 169) (kk := 18) (j := 8 * n + j) hS rfl rfl rfl (show 8 * n + j < 160 by omega) dX10_begin_169 ?_
                rw [show (100 + 18 : Nat) = 118 from rfl, bF_s]
                refine G_iincN (pc := 170) dX10_begin_170 rfl (by decide) ?_
                refine G_goto (pc := 173) (tgt := 145) dX10_begin_173 (by decide) ?_
                exact ih (j + 1) (by omega)
        have h9 := loop 8 0 rfl
        rw [bF_0] at h9
        exact h9
      · skip
        refine G_iconst (pc := 70) (v := nI 3) dX10_begin_70 (by first | rfl | decide) ?_
        refine G_goto (pc := 71) (tgt := 75) dX10_begin_71 (by decide) ?_
        refine M_put (pc := 75) hS fl_X10_72 fw_9_25 rfl dX10_begin_75 ?_
        refine G_aload_n (pc := 78) dX10_begin_78 rfl ?_
        refine M_get (pc := 79) hS fl_X10_72 rfl dX10_begin_79 ?_
        show G _ _ _ _ _ _ _ (.int (nI 3) :: _) _
        refine G_if_leN (pc := 82) (tgt := 87) (by omega) dX10_begin_82 (by decide) (fun h => absurd h (by decide)) (fun _ => ?_)
        refine G_iconst (pc := 85) (v := nI 0) dX10_begin_85 (by first | rfl | decide) ?_
        refine G_iret (pc := 86) VZ.n dX10_begin_86 rfl ⟨by decide, by decide⟩ ?_
        simp only [rt, mBegin]
        (first | rw [if_pos c42] | rw [if_neg c42] | skip)
        (first | rw [if_pos c55] | rw [if_neg c55] | skip)
        (first | rw [if_pos c67] | rw [if_neg c67] | skip)
        exact ⟨rfl, rfl⟩
  · skip
    refine G_iconst (pc := 45) (v := nI 2) dX10_begin_45 (by first | rfl | decide) ?_
    refine G_goto (pc := 46) (tgt := 75) dX10_begin_46 (by decide) ?_
    refine M_put (pc := 75) hS fl_X10_72 fw_9_25 rfl dX10_begin_75 ?_
    refine G_aload_n (pc := 78) dX10_begin_78 rfl ?_
    refine M_get (pc := 79) hS fl_X10_72 rfl dX10_begin_79 ?_
    show G _ _ _ _ _ _ _ (.int (nI 2) :: _) _
    refine G_if_leN (pc := 82) (tgt := 87) (by omega) dX10_begin_82 (by decide) (fun h => absurd h (by decide)) (fun _ => ?_)
    refine G_iconst (pc := 85) (v := nI 0) dX10_begin_85 (by first | rfl | decide) ?_
    refine G_iret (pc := 86) VZ.n dX10_begin_86 rfl ⟨by decide, by decide⟩ ?_
    simp only [rt, mBegin]
    (first | rw [if_pos c42] | rw [if_neg c42] | skip)
    (first | rw [if_pos c55] | rw [if_neg c55] | skip)
    (first | rw [if_pos c67] | rw [if_neg c67] | skip)
    exact ⟨rfl, rfl⟩
theorem C_resumeX {Γ : GTy} {Y : HS} (hS : MS Y) (F : FT) {x y : Int32} {n : Nat} (hn : F 10 0 = nI n) (hx : ¬ ((nI 0 ≤ x ∧ x ≤ nI n - nI 1) ∧ (nI 0 ≤ y ∧ y ≤ nI 3))) : Tn Γ M_X10_resume [.ref 900000, .int x, .int y] (wM Y F) (rt (some (.int (nI 0))) (wM Y (thr F (nI 1)))) := by
  refine Tn_of' rfl rfl rfl ?_
  show G Γ M_X10_resume (rm M_X10_resume) (Vn Γ M_X10_resume (rt (some (.int (nI 0))) (wM Y (thr F (nI 1))))) (0, 0) 0 [some (.ref 900000), some (.int x), some (.int y)] [] (wM Y F)
  refine G_aload_n (pc := 0) dX10_resume_0 rfl ?_
  refine G_iload_n (pc := 1) dX10_resume_1 rfl ?_
  refine G_iconst (pc := 2) (v := nI 0) dX10_resume_2 (by first | rfl | decide) ?_
  refine G_aload_n (pc := 3) dX10_resume_3 rfl ?_
  refine M_getv (pc := 4) (kk := 10) (v := nI n) hn hS fl_X10_103 rfl dX10_resume_4 ?_
  refine G_iconst (pc := 7) (v := nI 1) dX10_resume_7 (by first | rfl | decide) ?_
  refine G_isub (pc := 8) dX10_resume_8 ?_
  refine K_Sn3r (pc := 9) (k' := (0, 0)) mok_X10_isIn lk_X10_75 rfl (aok0 rfl) dX10_resume_9 (C_isIn _ _ _ _) rfl ?_
  refine G_if_eqB (pc := 12) (tgt := 26) dX10_resume_12 (by decide) (fun c12 => ?_) (fun c12 => ?_)
  · skip
    refine G_iconst (pc := 26) (v := nI 1) dX10_resume_26 (by first | rfl | decide) ?_
    refine M_put (pc := 27) hS fl_X10_72 fw_9_25 rfl dX10_resume_27 ?_
    refine G_aload_n (pc := 30) dX10_resume_30 rfl ?_
    refine M_get (pc := 31) hS fl_X10_72 rfl dX10_resume_31 ?_
    show G _ _ _ _ _ _ _ (.int (nI 1) :: _) _
    refine G_if_leN (pc := 34) (tgt := 39) (by omega) dX10_resume_34 (by decide) (fun h => absurd h (by decide)) (fun _ => ?_)
    refine G_iconst (pc := 37) (v := nI 0) dX10_resume_37 (by first | rfl | decide) ?_
    refine G_iret (pc := 38) VZ.n dX10_resume_38 rfl ⟨by decide, by decide⟩ ?_
    exact ⟨rfl, rfl⟩
  · skip
    refine G_iload_n (pc := 15) dX10_resume_15 rfl ?_
    refine K_Sn1r (pc := 16) (k' := (0, 0)) mok_X10_isTable lk_X10_79 rfl (aok0 rfl) dX10_resume_16 (C_isTable _ _) rfl ?_
    refine G_if_eqB (pc := 19) (tgt := 26) dX10_resume_19 (by decide) (fun c19 => ?_) (fun c19 => ?_)
    · skip
      refine G_iconst (pc := 26) (v := nI 1) dX10_resume_26 (by first | rfl | decide) ?_
      refine M_put (pc := 27) hS fl_X10_72 fw_9_25 rfl dX10_resume_27 ?_
      refine G_aload_n (pc := 30) dX10_resume_30 rfl ?_
      refine M_get (pc := 31) hS fl_X10_72 rfl dX10_resume_31 ?_
      show G _ _ _ _ _ _ _ (.int (nI 1) :: _) _
      refine G_if_leN (pc := 34) (tgt := 39) (by omega) dX10_resume_34 (by decide) (fun h => absurd h (by decide)) (fun _ => ?_)
      refine G_iconst (pc := 37) (v := nI 0) dX10_resume_37 (by first | rfl | decide) ?_
      refine G_iret (pc := 38) VZ.n dX10_resume_38 rfl ⟨by decide, by decide⟩ ?_
      exact ⟨rfl, rfl⟩
    · exact absurd ⟨c12, c19⟩ hx
def mResume (F : FT) (f t a b u : Nat) : Int32 × FT :=
  if F 113 f = nI 1 then (if (F 102 t = 0 ∧ F 104 t = 0 ∧ (¬ F 112 f = 0 ∨ (F 103 t = nI (a + 1) ∨ F 103 t = nI (b + 1)))) then (F 111 (2 * f + u), u2 (u2 (thr (thr F (nI 0)) (nI 0)) 113 f (nI 0)) 104 t (nI (f + 1))) else (nI 0, thr (thr F (nI 0)) (nI 2))) else (nI 0, thr (thr F (nI 0)) (nI 2))
theorem C_resumeN {Γ : GTy} {Y : HS} (hS : MS Y) (F : FT) {f t a b u n : Nat} (hf : f < n) (ht : t < 4) (hn : F 10 0 = nI n) (n20 : n ≤ 20) (ha : F 111 (2 * f) = nI a) (hb : F 111 (2 * f + 1) = nI b) (hu : F 114 f = nI u) (u1 : u ≤ 1) : Tn Γ M_X10_resume [.ref 900000, .int (nI f), .int (nI t)] (wM Y F) (rt (some (.int (mResume F f t a b u).1)) (wM Y (mResume F f t a b u).2)) := by
  refine Tn_of' rfl rfl rfl ?_
  show G Γ M_X10_resume (rm M_X10_resume) (Vn Γ M_X10_resume (rt (some (.int (mResume F f t a b u).1)) (wM Y (mResume F f t a b u).2))) (0, 0) 0 [some (.ref 900000), some (.int (nI f)), some (.int (nI t))] [] (wM Y F)
  refine G_aload_n (pc := 0) dX10_resume_0 rfl ?_
  refine G_iload_n (pc := 1) dX10_resume_1 rfl ?_
  refine G_iconst (pc := 2) (v := nI 0) dX10_resume_2 (by first | rfl | decide) ?_
  refine G_aload_n (pc := 3) dX10_resume_3 rfl ?_
  refine M_getv (pc := 4) (kk := 10) (v := nI n) hn hS fl_X10_103 rfl dX10_resume_4 ?_
  refine G_iconst (pc := 7) (v := nI 1) dX10_resume_7 (by first | rfl | decide) ?_
  refine G_isub (pc := 8) dX10_resume_8 ?_
  refine K_Sn3r (pc := 9) (k' := (0, 0)) mok_X10_isIn lk_X10_75 rfl (aok0 rfl) dX10_resume_9 (C_isIn _ _ _ _) rfl ?_
  refine G_if_eqB (pc := 12) (tgt := 26) dX10_resume_12 (by decide) (fun c12 => ?_) (fun c12 => ?_)
  · exact absurd (asks_in hf (by omega)) c12
  · skip
    refine G_iload_n (pc := 15) dX10_resume_15 rfl ?_
    refine K_Sn1r (pc := 16) (k' := (0, 0)) mok_X10_isTable lk_X10_79 rfl (aok0 rfl) dX10_resume_16 (C_isTableN ht _) rfl ?_
    refine G_if_eqN (pc := 19) (tgt := 26) (by omega) dX10_resume_19 (by decide) (fun h => absurd h (by decide)) (fun _ => ?_)
    refine G_iconst (pc := 22) (v := nI 0) dX10_resume_22 (by first | rfl | decide) ?_
    refine G_goto (pc := 23) (tgt := 27) dX10_resume_23 (by decide) ?_
    refine M_put (pc := 27) hS fl_X10_72 fw_9_25 rfl dX10_resume_27 ?_
    refine G_aload_n (pc := 30) dX10_resume_30 rfl ?_
    refine M_get (pc := 31) hS fl_X10_72 rfl dX10_resume_31 ?_
    show G _ _ _ _ _ _ _ (.int (nI 0) :: _) _
    refine G_if_leN (pc := 34) (tgt := 39) (by omega) dX10_resume_34 (by decide) (fun _ => ?_) (fun h => absurd h (by decide))
    refine G_aload_n (pc := 39) dX10_resume_39 rfl ?_
    refine G_aload_n (pc := 40) dX10_resume_40 rfl ?_
    refine M_arr (pc := 41) (a := 1900113) hS fl_X10_45 rfl rfl dX10_resume_41 ?_
    refine G_iload_n (pc := 44) dX10_resume_44 rfl ?_
    refine M_ldv (pc := 45) (kk := 13) (j := f) (v := F 113 f) rfl hS rfl rfl rfl (show f < 20 by omega) dX10_resume_45 ?_
    refine G_iconst (pc := 46) (v := nI 1) dX10_resume_46 (by first | rfl | decide) ?_
    refine G_icmp_ne (pc := 47) (tgt := 82) dX10_resume_47 (by decide) (fun c47 => ?_) (fun c47 => ?_)
    · skip
      refine G_iconst (pc := 82) (v := nI 2) dX10_resume_82 (by first | rfl | decide) ?_
      refine G_goto (pc := 83) (tgt := 87) dX10_resume_83 (by decide) ?_
      refine M_put (pc := 87) hS fl_X10_72 fw_9_25 rfl dX10_resume_87 ?_
      refine G_aload_n (pc := 90) dX10_resume_90 rfl ?_
      refine M_get (pc := 91) hS fl_X10_72 rfl dX10_resume_91 ?_
      show G _ _ _ _ _ _ _ (.int (nI 2) :: _) _
      refine G_if_leN (pc := 94) (tgt := 99) (by omega) dX10_resume_94 (by decide) (fun h => absurd h (by decide)) (fun _ => ?_)
      refine G_iconst (pc := 97) (v := nI 0) dX10_resume_97 (by first | rfl | decide) ?_
      refine G_iret (pc := 98) VZ.n dX10_resume_98 rfl ⟨by decide, by decide⟩ ?_
      simp only [rt, mResume]
      (first | rw [if_pos c47] | rw [if_neg c47] | skip)
      (first | rw [if_pos c79] | rw [if_neg c79] | skip)
      exact ⟨rfl, rfl⟩
    · skip
      refine G_aload_n (pc := 50) dX10_resume_50 rfl ?_
      refine G_iload_n (pc := 51) dX10_resume_51 rfl ?_
      refine G_aload_n (pc := 52) dX10_resume_52 rfl ?_
      refine M_arr (pc := 53) (a := 1900111) hS fl_X10_39 rfl rfl dX10_resume_53 ?_
      refine G_iconst (pc := 56) (v := nI 2) dX10_resume_56 (by first | rfl | decide) ?_
      refine G_iload_n (pc := 57) dX10_resume_57 rfl ?_
      refine G_imulN (pc := 58) dX10_resume_58 ?_
      refine M_ldv (pc := 59) (kk := 11) (j := 2 * f) (v := nI a) ha hS rfl rfl rfl (show 2 * f < 40 by omega) dX10_resume_59 ?_
      refine G_aload_n (pc := 60) dX10_resume_60 rfl ?_
      refine M_arr (pc := 61) (a := 1900111) hS fl_X10_39 rfl rfl dX10_resume_61 ?_
      refine G_iconst (pc := 64) (v := nI 2) dX10_resume_64 (by first | rfl | decide) ?_
      refine G_iload_n (pc := 65) dX10_resume_65 rfl ?_
      refine G_imulN (pc := 66) dX10_resume_66 ?_
      refine G_iconst (pc := 67) (v := nI 1) dX10_resume_67 (by first | rfl | decide) ?_
      refine G_iaddN (pc := 68) dX10_resume_68 ?_
      refine M_ldv (pc := 69) (kk := 11) (j := 2 * f + 1) (v := nI b) hb hS rfl rfl rfl (show 2 * f + 1 < 40 by omega) dX10_resume_69 ?_
      refine G_aload_n (pc := 70) dX10_resume_70 rfl ?_
      refine M_arr (pc := 71) (a := 1900112) hS fl_X10_42 rfl rfl dX10_resume_71 ?_
      refine G_iload_n (pc := 74) dX10_resume_74 rfl ?_
      refine M_bldv (pc := 75) (kk := 12) (j := f) (v := F 112 f) rfl hS rfl rfl rfl (show f < 20 by omega) dX10_resume_75 ?_
      refine K_Vn4r (pc := 76) (k' := (0, 0)) mok_X10_mayPlay lk_X10_106 hS.1 rfl rfl rfl (aok0 rfl) dX10_resume_76 (C_mayPlay hS _ ht) rfl ?_
      show G _ _ _ _ _ _ _ (.int (b2 (F 102 t = 0 ∧ F 104 t = 0 ∧ (¬ F 112 f = 0 ∨ (F 103 t = nI (a + 1) ∨ F 103 t = nI (b + 1))))) :: _) _
      refine G_if_neB (pc := 79) (tgt := 86) dX10_resume_79 (by decide) (fun c79 => ?_) (fun c79 => ?_)
      · skip
        refine G_iconst (pc := 86) (v := nI 0) dX10_resume_86 (by first | rfl | decide) ?_
        refine M_put (pc := 87) hS fl_X10_72 fw_9_25 rfl dX10_resume_87 ?_
        refine G_aload_n (pc := 90) dX10_resume_90 rfl ?_
        refine M_get (pc := 91) hS fl_X10_72 rfl dX10_resume_91 ?_
        show G _ _ _ _ _ _ _ (.int (nI 0) :: _) _
        refine G_if_leN (pc := 94) (tgt := 99) (by omega) dX10_resume_94 (by decide) (fun _ => ?_) (fun h => absurd h (by decide))
        refine G_aload_n (pc := 99) dX10_resume_99 rfl ?_
        refine M_arr (pc := 100) (a := 1900113) hS fl_X10_45 rfl rfl dX10_resume_100 ?_
        refine G_iload_n (pc := 103) dX10_resume_103 rfl ?_
        refine G_iconst (pc := 104) (v := nI 0) dX10_resume_104 (by first | rfl | decide) ?_
        refine M_st (pc := 105) (kk := 13) (j := f) hS rfl rfl rfl (show f < 20 by omega) dX10_resume_105 ?_
        refine G_aload_n (pc := 106) dX10_resume_106 rfl ?_
        refine M_arr (pc := 107) (a := 1900104) hS fl_X10_21 rfl rfl dX10_resume_107 ?_
        refine G_iload_n (pc := 110) dX10_resume_110 rfl ?_
        refine G_iload_n (pc := 111) dX10_resume_111 rfl ?_
        refine G_iconst (pc := 112) (v := nI 1) dX10_resume_112 (by first | rfl | decide) ?_
        refine G_iaddN (pc := 113) dX10_resume_113 ?_
        refine M_st (pc := 114) (kk := 4) (j := t) hS rfl rfl rfl ht dX10_resume_114 ?_
        refine G_aload_n (pc := 115) dX10_resume_115 rfl ?_
        refine M_arr (pc := 116) (a := 1900111) hS fl_X10_39 rfl rfl dX10_resume_116 ?_
        refine G_iconst (pc := 119) (v := nI 2) dX10_resume_119 (by first | rfl | decide) ?_
        refine G_iload_n (pc := 120) dX10_resume_120 rfl ?_
        refine G_imulN (pc := 121) dX10_resume_121 ?_
        refine G_aload_n (pc := 122) dX10_resume_122 rfl ?_
        refine M_arr (pc := 123) (a := 1900114) hS fl_X10_48 rfl rfl dX10_resume_123 ?_
        refine G_iload_n (pc := 126) dX10_resume_126 rfl ?_
        refine M_ldv (pc := 127) (kk := 14) (j := f) (v := nI u) hu hS rfl rfl rfl (show f < 20 by omega) dX10_resume_127 ?_
        refine G_iaddN (pc := 128) dX10_resume_128 ?_
        refine M_ldv (pc := 129) (kk := 11) (j := 2 * f + u) (v := F 111 (2 * f + u)) rfl hS rfl rfl rfl (show 2 * f + u < 40 by omega) dX10_resume_129 ?_
        refine G_iret (pc := 130) VZ.n dX10_resume_130 rfl ⟨by decide, by decide⟩ ?_
        simp only [rt, mResume]
        (first | rw [if_pos c47] | rw [if_neg c47] | skip)
        (first | rw [if_pos c79] | rw [if_neg c79] | skip)
        exact ⟨rfl, rfl⟩
      · skip
        refine G_iconst (pc := 82) (v := nI 2) dX10_resume_82 (by first | rfl | decide) ?_
        refine G_goto (pc := 83) (tgt := 87) dX10_resume_83 (by decide) ?_
        refine M_put (pc := 87) hS fl_X10_72 fw_9_25 rfl dX10_resume_87 ?_
        refine G_aload_n (pc := 90) dX10_resume_90 rfl ?_
        refine M_get (pc := 91) hS fl_X10_72 rfl dX10_resume_91 ?_
        show G _ _ _ _ _ _ _ (.int (nI 2) :: _) _
        refine G_if_leN (pc := 94) (tgt := 99) (by omega) dX10_resume_94 (by decide) (fun h => absurd h (by decide)) (fun _ => ?_)
        refine G_iconst (pc := 97) (v := nI 0) dX10_resume_97 (by first | rfl | decide) ?_
        refine G_iret (pc := 98) VZ.n dX10_resume_98 rfl ⟨by decide, by decide⟩ ?_
        simp only [rt, mResume]
        (first | rw [if_pos c47] | rw [if_neg c47] | skip)
        (first | rw [if_pos c79] | rw [if_neg c79] | skip)
        exact ⟨rfl, rfl⟩
theorem C_lendX {Γ : GTy} {Y : HS} (hS : MS Y) (F : FT) {x y : Int32} (hx : ¬ ((nI 0 ≤ x ∧ x ≤ nI 5) ∧ (nI 0 ≤ y ∧ y ≤ nI 7))) : Tn Γ M_X10_lend [.ref 900000, .int x, .int y] (wM Y F) (rt (some (.int (nI 0))) (wM Y (thr F (nI 1)))) := by
  refine Tn_of' rfl rfl rfl ?_
  show G Γ M_X10_lend (rm M_X10_lend) (Vn Γ M_X10_lend (rt (some (.int (nI 0))) (wM Y (thr F (nI 1))))) (0, 0) 0 [some (.ref 900000), some (.int x), some (.int y)] [] (wM Y F)
  refine G_aload_n (pc := 0) dX10_lend_0 rfl ?_
  refine G_iload_n (pc := 1) dX10_lend_1 rfl ?_
  refine K_Sn1r (pc := 2) (k' := (0, 0)) mok_X10_isCue lk_X10_177 rfl (aok0 rfl) dX10_lend_2 (C_isCue _ _) rfl ?_
  refine G_if_eqB (pc := 5) (tgt := 19) dX10_lend_5 (by decide) (fun c5 => ?_) (fun c5 => ?_)
  · skip
    refine G_iconst (pc := 19) (v := nI 1) dX10_lend_19 (by first | rfl | decide) ?_
    refine M_put (pc := 20) hS fl_X10_72 fw_9_25 rfl dX10_lend_20 ?_
    refine G_aload_n (pc := 23) dX10_lend_23 rfl ?_
    refine M_get (pc := 24) hS fl_X10_72 rfl dX10_lend_24 ?_
    show G _ _ _ _ _ _ _ (.int (nI 1) :: _) _
    refine G_if_leN (pc := 27) (tgt := 32) (by omega) dX10_lend_27 (by decide) (fun h => absurd h (by decide)) (fun _ => ?_)
    refine G_iconst (pc := 30) (v := nI 0) dX10_lend_30 (by first | rfl | decide) ?_
    refine G_iret (pc := 31) VZ.n dX10_lend_31 rfl ⟨by decide, by decide⟩ ?_
    exact ⟨rfl, rfl⟩
  · skip
    refine G_iload_n (pc := 8) dX10_lend_8 rfl ?_
    refine K_Sn1r (pc := 9) (k' := (0, 0)) mok_X10_isCustomer lk_X10_83 rfl (aok0 rfl) dX10_lend_9 (C_isCustomer _ _) rfl ?_
    refine G_if_eqB (pc := 12) (tgt := 19) dX10_lend_12 (by decide) (fun c12 => ?_) (fun c12 => ?_)
    · skip
      refine G_iconst (pc := 19) (v := nI 1) dX10_lend_19 (by first | rfl | decide) ?_
      refine M_put (pc := 20) hS fl_X10_72 fw_9_25 rfl dX10_lend_20 ?_
      refine G_aload_n (pc := 23) dX10_lend_23 rfl ?_
      refine M_get (pc := 24) hS fl_X10_72 rfl dX10_lend_24 ?_
      show G _ _ _ _ _ _ _ (.int (nI 1) :: _) _
      refine G_if_leN (pc := 27) (tgt := 32) (by omega) dX10_lend_27 (by decide) (fun h => absurd h (by decide)) (fun _ => ?_)
      refine G_iconst (pc := 30) (v := nI 0) dX10_lend_30 (by first | rfl | decide) ?_
      refine G_iret (pc := 31) VZ.n dX10_lend_31 rfl ⟨by decide, by decide⟩ ?_
      exact ⟨rfl, rfl⟩
    · exact absurd ⟨c5, c12⟩ hx
def mLend (F : FT) (u c : Nat) : Int32 × FT := if 0 < F 107 u then (nI 0, thr (thr F (nI 0)) (nI 2)) else if (lastW (fun k => F 107 k = nI (c + 1)) 6) < 0 then (F 108 u, u2 (u2 (thr (thr F (nI 0)) (nI 0)) 107 u (nI (c + 1))) 109 u (F 108 u)) else (nI 0, thr (thr F (nI 0)) (nI 2))
theorem C_lendN {Γ : GTy} {Y : HS} (hS : MS Y) (F : FT) {u c : Nat} (hu : u < 6) (hc : c < 8) : Tn Γ M_X10_lend [.ref 900000, .int (nI u), .int (nI c)] (wM Y F) (rt (some (.int (mLend F u c).1)) (wM Y (mLend F u c).2)) := by
  refine Tn_of' rfl rfl rfl ?_
  show G Γ M_X10_lend (rm M_X10_lend) (Vn Γ M_X10_lend (rt (some (.int (mLend F u c).1)) (wM Y (mLend F u c).2))) (0, 0) 0 [some (.ref 900000), some (.int (nI u)), some (.int (nI c))] [] (wM Y F)
  refine G_aload_n (pc := 0) dX10_lend_0 rfl ?_
  refine G_iload_n (pc := 1) dX10_lend_1 rfl ?_
  refine K_Sn1r (pc := 2) (k' := (0, 0)) mok_X10_isCue lk_X10_177 rfl (aok0 rfl) dX10_lend_2 (C_isCueN hu _) rfl ?_
  refine G_if_eqN (pc := 5) (tgt := 19) (by omega) dX10_lend_5 (by decide) (fun h => absurd h (by decide)) (fun _ => ?_)
  refine G_iload_n (pc := 8) dX10_lend_8 rfl ?_
  refine K_Sn1r (pc := 9) (k' := (0, 0)) mok_X10_isCustomer lk_X10_83 rfl (aok0 rfl) dX10_lend_9 (C_isCustomerN hc _) rfl ?_
  refine G_if_eqN (pc := 12) (tgt := 19) (by omega) dX10_lend_12 (by decide) (fun h => absurd h (by decide)) (fun _ => ?_)
  refine G_iconst (pc := 15) (v := nI 0) dX10_lend_15 (by first | rfl | decide) ?_
  refine G_goto (pc := 16) (tgt := 20) dX10_lend_16 (by decide) ?_
  refine M_put (pc := 20) hS fl_X10_72 fw_9_25 rfl dX10_lend_20 ?_
  refine G_aload_n (pc := 23) dX10_lend_23 rfl ?_
  refine M_get (pc := 24) hS fl_X10_72 rfl dX10_lend_24 ?_
  show G _ _ _ _ _ _ _ (.int (nI 0) :: _) _
  refine G_if_leN (pc := 27) (tgt := 32) (by omega) dX10_lend_27 (by decide) (fun _ => ?_) (fun h => absurd h (by decide))
  refine G_aload_n (pc := 32) dX10_lend_32 rfl ?_
  refine G_aload_n (pc := 33) dX10_lend_33 rfl ?_
  refine M_arr (pc := 34) (a := 1900107) hS fl_X10_30 rfl rfl dX10_lend_34 ?_
  refine G_iload_n (pc := 37) dX10_lend_37 rfl ?_
  refine M_ldv (pc := 38) (kk := 7) (j := u) (v := F 107 u) rfl hS rfl rfl rfl hu dX10_lend_38 ?_
  refine G_if_gt (pc := 39) (tgt := 50) dX10_lend_39 (by decide) (fun c39 => ?_) (fun c39 => ?_)
  · skip
    refine G_iconst (pc := 50) (v := nI 2) dX10_lend_50 (by first | rfl | decide) ?_
    refine G_goto (pc := 51) (tgt := 55) dX10_lend_51 (by decide) ?_
    refine M_put (pc := 55) hS fl_X10_72 fw_9_25 rfl dX10_lend_55 ?_
    refine G_aload_n (pc := 58) dX10_lend_58 rfl ?_
    refine M_get (pc := 59) hS fl_X10_72 rfl dX10_lend_59 ?_
    show G _ _ _ _ _ _ _ (.int (nI 2) :: _) _
    refine G_if_leN (pc := 62) (tgt := 67) (by omega) dX10_lend_62 (by decide) (fun h => absurd h (by decide)) (fun _ => ?_)
    refine G_iconst (pc := 65) (v := nI 0) dX10_lend_65 (by first | rfl | decide) ?_
    refine G_iret (pc := 66) VZ.n dX10_lend_66 rfl ⟨by decide, by decide⟩ ?_
    simp only [rt, mLend]
    (first | rw [if_pos c39] | rw [if_neg c39] | skip)
    (first | rw [if_pos c47] | rw [if_neg c47] | skip)
    exact ⟨rfl, rfl⟩
  · skip
    refine G_aload_n (pc := 42) dX10_lend_42 rfl ?_
    refine G_iload_n (pc := 43) dX10_lend_43 rfl ?_
    refine K_Vn1r (pc := 44) (k' := (0, 0)) mok_X10_cueWith lk_X10_144 hS.1 rfl rfl rfl (aok0 rfl) dX10_lend_44 (C_cueWith hS _ _) rfl ?_
    show G _ _ _ _ _ _ _ (.int (lastW (fun k => F 107 k = nI (c + 1)) 6) :: _) _
    refine G_if_lt (pc := 47) (tgt := 54) dX10_lend_47 (by decide) (fun c47 => ?_) (fun c47 => ?_)
    · skip
      refine G_iconst (pc := 54) (v := nI 0) dX10_lend_54 (by first | rfl | decide) ?_
      refine M_put (pc := 55) hS fl_X10_72 fw_9_25 rfl dX10_lend_55 ?_
      refine G_aload_n (pc := 58) dX10_lend_58 rfl ?_
      refine M_get (pc := 59) hS fl_X10_72 rfl dX10_lend_59 ?_
      show G _ _ _ _ _ _ _ (.int (nI 0) :: _) _
      refine G_if_leN (pc := 62) (tgt := 67) (by omega) dX10_lend_62 (by decide) (fun _ => ?_) (fun h => absurd h (by decide))
      refine G_aload_n (pc := 67) dX10_lend_67 rfl ?_
      refine M_arr (pc := 68) (a := 1900107) hS fl_X10_30 rfl rfl dX10_lend_68 ?_
      refine G_iload_n (pc := 71) dX10_lend_71 rfl ?_
      refine G_iload_n (pc := 72) dX10_lend_72 rfl ?_
      refine G_iconst (pc := 73) (v := nI 1) dX10_lend_73 (by first | rfl | decide) ?_
      refine G_iaddN (pc := 74) dX10_lend_74 ?_
      refine M_st (pc := 75) (kk := 7) (j := u) hS rfl rfl rfl hu dX10_lend_75 ?_
      refine G_aload_n (pc := 76) dX10_lend_76 rfl ?_
      refine M_arr (pc := 77) (a := 1900109) hS fl_X10_36 rfl rfl dX10_lend_77 ?_
      refine G_iload_n (pc := 80) dX10_lend_80 rfl ?_
      refine G_aload_n (pc := 81) dX10_lend_81 rfl ?_
      refine M_arr (pc := 82) (a := 1900108) hS fl_X10_33 rfl rfl dX10_lend_82 ?_
      refine G_iload_n (pc := 85) dX10_lend_85 rfl ?_
      refine M_ldv (pc := 86) (kk := 8) (j := u) (v := F 108 u) rfl hS rfl rfl rfl hu dX10_lend_86 ?_
      refine M_st (pc := 87) (kk := 9) (j := u) hS rfl rfl rfl hu dX10_lend_87 ?_
      refine G_aload_n (pc := 88) dX10_lend_88 rfl ?_
      refine M_arr (pc := 89) (a := 1900108) hS fl_X10_33 rfl rfl dX10_lend_89 ?_
      refine G_iload_n (pc := 92) dX10_lend_92 rfl ?_
      refine M_ldv (pc := 93) (kk := 8) (j := u) (v := F 108 u) rfl hS rfl rfl rfl hu dX10_lend_93 ?_
      refine G_iret (pc := 94) VZ.n dX10_lend_94 rfl ⟨by decide, by decide⟩ ?_
      simp only [rt, mLend]
      (first | rw [if_pos c39] | rw [if_neg c39] | skip)
      (first | rw [if_pos c47] | rw [if_neg c47] | skip)
      exact ⟨rfl, rfl⟩
    · skip
      refine G_iconst (pc := 50) (v := nI 2) dX10_lend_50 (by first | rfl | decide) ?_
      refine G_goto (pc := 51) (tgt := 55) dX10_lend_51 (by decide) ?_
      refine M_put (pc := 55) hS fl_X10_72 fw_9_25 rfl dX10_lend_55 ?_
      refine G_aload_n (pc := 58) dX10_lend_58 rfl ?_
      refine M_get (pc := 59) hS fl_X10_72 rfl dX10_lend_59 ?_
      show G _ _ _ _ _ _ _ (.int (nI 2) :: _) _
      refine G_if_leN (pc := 62) (tgt := 67) (by omega) dX10_lend_62 (by decide) (fun h => absurd h (by decide)) (fun _ => ?_)
      refine G_iconst (pc := 65) (v := nI 0) dX10_lend_65 (by first | rfl | decide) ?_
      refine G_iret (pc := 66) VZ.n dX10_lend_66 rfl ⟨by decide, by decide⟩ ?_
      simp only [rt, mLend]
      (first | rw [if_pos c39] | rw [if_neg c39] | skip)
      (first | rw [if_pos c47] | rw [if_neg c47] | skip)
      exact ⟨rfl, rfl⟩
theorem C_takeBackX {Γ : GTy} {Y : HS} (hS : MS Y) (F : FT) {x : Int32} (hx : ¬ (nI 0 ≤ x ∧ x ≤ nI 5)) : Tn Γ M_X10_takeBack [.ref 900000, .int x] (wM Y F) (rt (some (.int (nI 0))) (wM Y (thr F (nI 1)))) := by
  refine Tn_of' rfl rfl rfl ?_
  show G Γ M_X10_takeBack (rm M_X10_takeBack) (Vn Γ M_X10_takeBack (rt (some (.int (nI 0))) (wM Y (thr F (nI 1))))) (0, 0) 0 [some (.ref 900000), some (.int x), none] [] (wM Y F)
  refine G_aload_n (pc := 0) dX10_takeBack_0 rfl ?_
  refine G_iload_n (pc := 1) dX10_takeBack_1 rfl ?_
  refine K_Sn1r (pc := 2) (k' := (0, 0)) mok_X10_isCue lk_X10_177 rfl (aok0 rfl) dX10_takeBack_2 (C_isCue _ _) rfl ?_
  refine G_if_eqB (pc := 5) (tgt := 12) dX10_takeBack_5 (by decide) (fun c5 => ?_) (fun c5 => ?_)
  · skip
    refine G_iconst (pc := 12) (v := nI 1) dX10_takeBack_12 (by first | rfl | decide) ?_
    refine M_put (pc := 13) hS fl_X10_72 fw_9_25 rfl dX10_takeBack_13 ?_
    refine G_aload_n (pc := 16) dX10_takeBack_16 rfl ?_
    refine M_get (pc := 17) hS fl_X10_72 rfl dX10_takeBack_17 ?_
    show G _ _ _ _ _ _ _ (.int (nI 1) :: _) _
    refine G_if_leN (pc := 20) (tgt := 25) (by omega) dX10_takeBack_20 (by decide) (fun h => absurd h (by decide)) (fun _ => ?_)
    refine G_iconst (pc := 23) (v := nI 0) dX10_takeBack_23 (by first | rfl | decide) ?_
    refine G_iret (pc := 24) VZ.n dX10_takeBack_24 rfl ⟨by decide, by decide⟩ ?_
    exact ⟨rfl, rfl⟩
  · exact absurd c5 hx
theorem C_tipX {Γ : GTy} {Y : HS} (hS : MS Y) (F : FT) {x : Int32} (hx : ¬ (nI 0 ≤ x ∧ x ≤ nI 5)) : Tn Γ M_X10_tip [.ref 900000, .int x] (wM Y F) (rt (some (.int (nI 0))) (wM Y (thr F (nI 1)))) := by
  refine Tn_of' rfl rfl rfl ?_
  show G Γ M_X10_tip (rm M_X10_tip) (Vn Γ M_X10_tip (rt (some (.int (nI 0))) (wM Y (thr F (nI 1))))) (0, 0) 0 [some (.ref 900000), some (.int x), none] [] (wM Y F)
  refine G_aload_n (pc := 0) dX10_tip_0 rfl ?_
  refine G_iload_n (pc := 1) dX10_tip_1 rfl ?_
  refine K_Sn1r (pc := 2) (k' := (0, 0)) mok_X10_isCue lk_X10_177 rfl (aok0 rfl) dX10_tip_2 (C_isCue _ _) rfl ?_
  refine G_if_eqB (pc := 5) (tgt := 12) dX10_tip_5 (by decide) (fun c5 => ?_) (fun c5 => ?_)
  · skip
    refine G_iconst (pc := 12) (v := nI 1) dX10_tip_12 (by first | rfl | decide) ?_
    refine M_put (pc := 13) hS fl_X10_72 fw_9_25 rfl dX10_tip_13 ?_
    refine G_aload_n (pc := 16) dX10_tip_16 rfl ?_
    refine M_get (pc := 17) hS fl_X10_72 rfl dX10_tip_17 ?_
    show G _ _ _ _ _ _ _ (.int (nI 1) :: _) _
    refine G_if_leN (pc := 20) (tgt := 25) (by omega) dX10_tip_20 (by decide) (fun h => absurd h (by decide)) (fun _ => ?_)
    refine G_iconst (pc := 23) (v := nI 0) dX10_tip_23 (by first | rfl | decide) ?_
    refine G_iret (pc := 24) VZ.n dX10_tip_24 rfl ⟨by decide, by decide⟩ ?_
    exact ⟨rfl, rfl⟩
  · exact absurd c5 hx
def mBack (F : FT) (u l : Nat) : Int32 × FT := if l = 0 then (nI 0, thr (thr F (nI 0)) (nI 2)) else (nI 20 - (F 108 u - F 109 u) / nI 5, u2 (u2 (thr (thr F (nI 0)) (nI 0)) 106 (l - 1) (F 106 (l - 1) + (F 108 u - F 109 u) / nI 5)) 107 u (nI 0))
def mTip (F : FT) (u : Nat) : Int32 × FT := if F 107 u ≤ 0 then (F 108 u, u2 (thr (thr F (nI 0)) (nI 0)) 108 u (nI 0)) else (nI 0, thr (thr F (nI 0)) (nI 2))
theorem C_takeBackN {Γ : GTy} {Y : HS} (hS : MS Y) (F : FT) {u l : Nat} (hu : u < 6) (hl : F 107 u = nI l) (l8 : l ≤ 8) : Tn Γ M_X10_takeBack [.ref 900000, .int (nI u)] (wM Y F) (rt (some (.int (mBack F u l).1)) (wM Y (mBack F u l).2)) := by
  refine Tn_of' rfl rfl rfl ?_
  show G Γ M_X10_takeBack (rm M_X10_takeBack) (Vn Γ M_X10_takeBack (rt (some (.int (mBack F u l).1)) (wM Y (mBack F u l).2))) (0, 0) 0 [some (.ref 900000), some (.int (nI u)), none] [] (wM Y F)
  refine G_aload_n (pc := 0) dX10_takeBack_0 rfl ?_
  refine G_iload_n (pc := 1) dX10_takeBack_1 rfl ?_
  refine K_Sn1r (pc := 2) (k' := (0, 0)) mok_X10_isCue lk_X10_177 rfl (aok0 rfl) dX10_takeBack_2 (C_isCueN hu _) rfl ?_
  refine G_if_eqN (pc := 5) (tgt := 12) (by omega) dX10_takeBack_5 (by decide) (fun h => absurd h (by decide)) (fun _ => ?_)
  refine G_iconst (pc := 8) (v := nI 0) dX10_takeBack_8 (by first | rfl | decide) ?_
  refine G_goto (pc := 9) (tgt := 13) dX10_takeBack_9 (by decide) ?_
  refine M_put (pc := 13) hS fl_X10_72 fw_9_25 rfl dX10_takeBack_13 ?_
  refine G_aload_n (pc := 16) dX10_takeBack_16 rfl ?_
  refine M_get (pc := 17) hS fl_X10_72 rfl dX10_takeBack_17 ?_
  show G _ _ _ _ _ _ _ (.int (nI 0) :: _) _
  refine G_if_leN (pc := 20) (tgt := 25) (by omega) dX10_takeBack_20 (by decide) (fun _ => ?_) (fun h => absurd h (by decide))
  refine G_aload_n (pc := 25) dX10_takeBack_25 rfl ?_
  refine G_aload_n (pc := 26) dX10_takeBack_26 rfl ?_
  refine M_arr (pc := 27) (a := 1900107) hS fl_X10_30 rfl rfl dX10_takeBack_27 ?_
  refine G_iload_n (pc := 30) dX10_takeBack_30 rfl ?_
  refine M_ldv (pc := 31) (kk := 7) (j := u) (v := nI l) hl hS rfl rfl rfl hu dX10_takeBack_31 ?_
  refine G_if_neN (pc := 32) (tgt := 39) (by omega) dX10_takeBack_32 (by decide) (fun c32 => ?_) (fun c32 => ?_)
  · skip
    refine G_iconst (pc := 39) (v := nI 0) dX10_takeBack_39 (by first | rfl | decide) ?_
    refine M_put (pc := 40) hS fl_X10_72 fw_9_25 rfl dX10_takeBack_40 ?_
    refine G_aload_n (pc := 43) dX10_takeBack_43 rfl ?_
    refine M_get (pc := 44) hS fl_X10_72 rfl dX10_takeBack_44 ?_
    show G _ _ _ _ _ _ _ (.int (nI 0) :: _) _
    refine G_if_leN (pc := 47) (tgt := 52) (by omega) dX10_takeBack_47 (by decide) (fun _ => ?_) (fun h => absurd h (by decide))
    refine G_aload_n (pc := 52) dX10_takeBack_52 rfl ?_
    refine M_arr (pc := 53) (a := 1900108) hS fl_X10_33 rfl rfl dX10_takeBack_53 ?_
    refine G_iload_n (pc := 56) dX10_takeBack_56 rfl ?_
    refine M_ldv (pc := 57) (kk := 8) (j := u) (v := F 108 u) rfl hS rfl rfl rfl hu dX10_takeBack_57 ?_
    refine G_aload_n (pc := 58) dX10_takeBack_58 rfl ?_
    refine M_arr (pc := 59) (a := 1900109) hS fl_X10_36 rfl rfl dX10_takeBack_59 ?_
    refine G_iload_n (pc := 62) dX10_takeBack_62 rfl ?_
    refine M_ldv (pc := 63) (kk := 9) (j := u) (v := F 109 u) rfl hS rfl rfl rfl hu dX10_takeBack_63 ?_
    refine G_isub (pc := 64) dX10_takeBack_64 ?_
    refine G_iconst (pc := 65) (v := nI 5) dX10_takeBack_65 (by first | rfl | decide) ?_
    refine G_idiv (pc := 66) dX10_takeBack_66 (by decide) ?_
    refine G_istore_n (pc := 67) dX10_takeBack_67 (by decide) ?_
    refine G_aload_n (pc := 68) dX10_takeBack_68 rfl ?_
    refine M_arr (pc := 69) (a := 1900106) hS fl_X10_27 rfl rfl dX10_takeBack_69 ?_
    refine G_aload_n (pc := 72) dX10_takeBack_72 rfl ?_
    refine M_arr (pc := 73) (a := 1900107) hS fl_X10_30 rfl rfl dX10_takeBack_73 ?_
    refine G_iload_n (pc := 76) dX10_takeBack_76 rfl ?_
    refine M_ldv (pc := 77) (kk := 7) (j := u) (v := nI l) hl hS rfl rfl rfl hu dX10_takeBack_77 ?_
    refine G_iconst (pc := 78) (v := nI 1) dX10_takeBack_78 (by first | rfl | decide) ?_
    refine G_isubN (pc := 79) (by omega) dX10_takeBack_79 ?_
    refine G_dup2 (pc := 80) dX10_takeBack_80 rfl rfl ?_
    refine M_ldv (pc := 81) (kk := 6) (j := l - 1) (v := F 106 (l - 1)) rfl hS rfl rfl rfl (show l - 1 < 8 by omega) dX10_takeBack_81 ?_
    refine G_iload_n (pc := 82) dX10_takeBack_82 rfl ?_
    refine G_iadd (pc := 83) dX10_takeBack_83 ?_
    refine M_st (pc := 84) (kk := 6) (j := l - 1) hS rfl rfl rfl (show l - 1 < 8 by omega) dX10_takeBack_84 ?_
    refine G_aload_n (pc := 85) dX10_takeBack_85 rfl ?_
    refine M_arr (pc := 86) (a := 1900107) hS fl_X10_30 rfl rfl dX10_takeBack_86 ?_
    refine G_iload_n (pc := 89) dX10_takeBack_89 rfl ?_
    refine G_iconst (pc := 90) (v := nI 0) dX10_takeBack_90 (by first | rfl | decide) ?_
    refine M_st (pc := 91) (kk := 7) (j := u) hS rfl rfl rfl hu dX10_takeBack_91 ?_
    refine G_bipush (pc := 92) (v := nI 20) dX10_takeBack_92 (by first | rfl | decide) ?_
    refine G_iload_n (pc := 94) dX10_takeBack_94 rfl ?_
    refine G_isub (pc := 95) dX10_takeBack_95 ?_
    refine G_iret (pc := 96) VZ.n dX10_takeBack_96 rfl ⟨by decide, by decide⟩ ?_
    simp only [rt, mBack]
    (first | rw [if_pos c32] | rw [if_neg c32] | skip)
    exact ⟨rfl, rfl⟩
  · skip
    refine G_iconst (pc := 35) (v := nI 2) dX10_takeBack_35 (by first | rfl | decide) ?_
    refine G_goto (pc := 36) (tgt := 40) dX10_takeBack_36 (by decide) ?_
    refine M_put (pc := 40) hS fl_X10_72 fw_9_25 rfl dX10_takeBack_40 ?_
    refine G_aload_n (pc := 43) dX10_takeBack_43 rfl ?_
    refine M_get (pc := 44) hS fl_X10_72 rfl dX10_takeBack_44 ?_
    show G _ _ _ _ _ _ _ (.int (nI 2) :: _) _
    refine G_if_leN (pc := 47) (tgt := 52) (by omega) dX10_takeBack_47 (by decide) (fun h => absurd h (by decide)) (fun _ => ?_)
    refine G_iconst (pc := 50) (v := nI 0) dX10_takeBack_50 (by first | rfl | decide) ?_
    refine G_iret (pc := 51) VZ.n dX10_takeBack_51 rfl ⟨by decide, by decide⟩ ?_
    simp only [rt, mBack]
    (first | rw [if_pos c32] | rw [if_neg c32] | skip)
    exact ⟨rfl, rfl⟩
theorem C_tipN {Γ : GTy} {Y : HS} (hS : MS Y) (F : FT) {u : Nat} (hu : u < 6) : Tn Γ M_X10_tip [.ref 900000, .int (nI u)] (wM Y F) (rt (some (.int (mTip F u).1)) (wM Y (mTip F u).2)) := by
  refine Tn_of' rfl rfl rfl ?_
  show G Γ M_X10_tip (rm M_X10_tip) (Vn Γ M_X10_tip (rt (some (.int (mTip F u).1)) (wM Y (mTip F u).2))) (0, 0) 0 [some (.ref 900000), some (.int (nI u)), none] [] (wM Y F)
  refine G_aload_n (pc := 0) dX10_tip_0 rfl ?_
  refine G_iload_n (pc := 1) dX10_tip_1 rfl ?_
  refine K_Sn1r (pc := 2) (k' := (0, 0)) mok_X10_isCue lk_X10_177 rfl (aok0 rfl) dX10_tip_2 (C_isCueN hu _) rfl ?_
  refine G_if_eqN (pc := 5) (tgt := 12) (by omega) dX10_tip_5 (by decide) (fun h => absurd h (by decide)) (fun _ => ?_)
  refine G_iconst (pc := 8) (v := nI 0) dX10_tip_8 (by first | rfl | decide) ?_
  refine G_goto (pc := 9) (tgt := 13) dX10_tip_9 (by decide) ?_
  refine M_put (pc := 13) hS fl_X10_72 fw_9_25 rfl dX10_tip_13 ?_
  refine G_aload_n (pc := 16) dX10_tip_16 rfl ?_
  refine M_get (pc := 17) hS fl_X10_72 rfl dX10_tip_17 ?_
  show G _ _ _ _ _ _ _ (.int (nI 0) :: _) _
  refine G_if_leN (pc := 20) (tgt := 25) (by omega) dX10_tip_20 (by decide) (fun _ => ?_) (fun h => absurd h (by decide))
  refine G_aload_n (pc := 25) dX10_tip_25 rfl ?_
  refine G_aload_n (pc := 26) dX10_tip_26 rfl ?_
  refine M_arr (pc := 27) (a := 1900107) hS fl_X10_30 rfl rfl dX10_tip_27 ?_
  refine G_iload_n (pc := 30) dX10_tip_30 rfl ?_
  refine M_ldv (pc := 31) (kk := 7) (j := u) (v := F 107 u) rfl hS rfl rfl rfl hu dX10_tip_31 ?_
  refine G_if_le (pc := 32) (tgt := 39) dX10_tip_32 (by decide) (fun c32 => ?_) (fun c32 => ?_)
  · skip
    refine G_iconst (pc := 39) (v := nI 0) dX10_tip_39 (by first | rfl | decide) ?_
    refine M_put (pc := 40) hS fl_X10_72 fw_9_25 rfl dX10_tip_40 ?_
    refine G_aload_n (pc := 43) dX10_tip_43 rfl ?_
    refine M_get (pc := 44) hS fl_X10_72 rfl dX10_tip_44 ?_
    show G _ _ _ _ _ _ _ (.int (nI 0) :: _) _
    refine G_if_leN (pc := 47) (tgt := 52) (by omega) dX10_tip_47 (by decide) (fun _ => ?_) (fun h => absurd h (by decide))
    refine G_aload_n (pc := 52) dX10_tip_52 rfl ?_
    refine M_arr (pc := 53) (a := 1900108) hS fl_X10_33 rfl rfl dX10_tip_53 ?_
    refine G_iload_n (pc := 56) dX10_tip_56 rfl ?_
    refine M_ldv (pc := 57) (kk := 8) (j := u) (v := F 108 u) rfl hS rfl rfl rfl hu dX10_tip_57 ?_
    refine G_istore_n (pc := 58) dX10_tip_58 (by decide) ?_
    refine G_aload_n (pc := 59) dX10_tip_59 rfl ?_
    refine M_arr (pc := 60) (a := 1900108) hS fl_X10_33 rfl rfl dX10_tip_60 ?_
    refine G_iload_n (pc := 63) dX10_tip_63 rfl ?_
    refine G_iconst (pc := 64) (v := nI 0) dX10_tip_64 (by first | rfl | decide) ?_
    refine M_st (pc := 65) (kk := 8) (j := u) hS rfl rfl rfl hu dX10_tip_65 ?_
    refine G_iload_n (pc := 66) dX10_tip_66 rfl ?_
    refine G_iret (pc := 67) VZ.n dX10_tip_67 rfl ⟨by decide, by decide⟩ ?_
    simp only [rt, mTip]
    (first | rw [if_pos c32] | rw [if_neg c32] | skip)
    exact ⟨rfl, rfl⟩
  · skip
    refine G_iconst (pc := 35) (v := nI 2) dX10_tip_35 (by first | rfl | decide) ?_
    refine G_goto (pc := 36) (tgt := 40) dX10_tip_36 (by decide) ?_
    refine M_put (pc := 40) hS fl_X10_72 fw_9_25 rfl dX10_tip_40 ?_
    refine G_aload_n (pc := 43) dX10_tip_43 rfl ?_
    refine M_get (pc := 44) hS fl_X10_72 rfl dX10_tip_44 ?_
    show G _ _ _ _ _ _ _ (.int (nI 2) :: _) _
    refine G_if_leN (pc := 47) (tgt := 52) (by omega) dX10_tip_47 (by decide) (fun h => absurd h (by decide)) (fun _ => ?_)
    refine G_iconst (pc := 50) (v := nI 0) dX10_tip_50 (by first | rfl | decide) ?_
    refine G_iret (pc := 51) VZ.n dX10_tip_51 rfl ⟨by decide, by decide⟩ ?_
    simp only [rt, mTip]
    (first | rw [if_pos c32] | rw [if_neg c32] | skip)
    exact ⟨rfl, rfl⟩
def clip1 (x : Int32) : Int32 := if nI 1 ≤ x then x else nI 1
theorem C_forceOf0 {Γ : GTy} {Y : HS} (hS : MS Y) (F : FT) {c : Nat} {p : Int32} (h : (lastW (fun k => F 107 k = nI (c + 1)) 6) = -1) : Tn Γ M_X10_forceOf [.ref 900000, .int (nI c), .int p] (wM Y F) (rt (some (.int (clip1 (nI 3 * p / nI 4)))) (wM Y F)) := by
  refine Tn_of' rfl rfl rfl ?_
  show G Γ M_X10_forceOf (rm M_X10_forceOf) (Vn Γ M_X10_forceOf (rt (some (.int (clip1 (nI 3 * p / nI 4)))) (wM Y F))) (0, 0) 0 [some (.ref 900000), some (.int (nI c)), some (.int p), none, none] [] (wM Y F)
  refine G_aload_n (pc := 0) dX10_forceOf_0 rfl ?_
  refine G_iload_n (pc := 1) dX10_forceOf_1 rfl ?_
  refine K_Vn1r (pc := 2) (k' := (0, 0)) mok_X10_cueWith lk_X10_144 hS.1 rfl rfl rfl (aok0 rfl) dX10_forceOf_2 (C_cueWith hS _ _) rfl ?_
  rw [h]
  refine G_istore_n (pc := 5) dX10_forceOf_5 (by decide) ?_
  refine G_iload_n (pc := 6) dX10_forceOf_6 rfl ?_
  refine G_if_ge (pc := 7) (tgt := 18) dX10_forceOf_7 (by decide) (fun h => absurd h (by decide)) (fun _ => ?_)
  refine G_iconst (pc := 10) (v := nI 3) dX10_forceOf_10 (by first | rfl | decide) ?_
  refine G_iload_n (pc := 11) dX10_forceOf_11 rfl ?_
  refine G_imul (pc := 12) dX10_forceOf_12 ?_
  refine G_iconst (pc := 13) (v := nI 4) dX10_forceOf_13 (by first | rfl | decide) ?_
  refine G_idiv (pc := 14) dX10_forceOf_14 (by decide) ?_
  refine G_goto (pc := 15) (tgt := 34) dX10_forceOf_15 (by decide) ?_
  refine G_istore (pc := 34) dX10_forceOf_34 (by decide) ?_
  refine G_iload (pc := 36) dX10_forceOf_36 rfl ?_
  refine G_iconst (pc := 38) (v := nI 1) dX10_forceOf_38 (by first | rfl | decide) ?_
  refine G_icmp_ge (pc := 39) (tgt := 46) dX10_forceOf_39 (by decide) (fun c39 => ?_) (fun c39 => ?_)
  · skip
    refine G_iload (pc := 46) dX10_forceOf_46 rfl ?_
    refine G_iret (pc := 48) VZ.n dX10_forceOf_48 rfl ⟨by decide, by decide⟩ ?_
    refine ⟨congrArg (fun z => some (Value.int z)) ?_, rfl⟩
    unfold clip1
    first | exact (if_pos c39).symm | exact (if_neg c39).symm
  · skip
    refine G_iconst (pc := 42) (v := nI 1) dX10_forceOf_42 (by first | rfl | decide) ?_
    refine G_goto (pc := 43) (tgt := 48) dX10_forceOf_43 (by decide) ?_
    refine G_iret (pc := 48) VZ.n dX10_forceOf_48 rfl ⟨by decide, by decide⟩ ?_
    refine ⟨congrArg (fun z => some (Value.int z)) ?_, rfl⟩
    unfold clip1
    first | exact (if_pos c39).symm | exact (if_neg c39).symm
theorem C_forceOf1 {Γ : GTy} {Y : HS} (hS : MS Y) (F : FT) {c u : Nat} {p : Int32} (h : (lastW (fun k => F 107 k = nI (c + 1)) 6) = nI u) (hu : u < 6) : Tn Γ M_X10_forceOf [.ref 900000, .int (nI c), .int p] (wM Y F) (rt (some (.int (clip1 (p * (nI 200 - F 108 u) / nI 200)))) (wM Y F)) := by
  refine Tn_of' rfl rfl rfl ?_
  show G Γ M_X10_forceOf (rm M_X10_forceOf) (Vn Γ M_X10_forceOf (rt (some (.int (clip1 (p * (nI 200 - F 108 u) / nI 200)))) (wM Y F))) (0, 0) 0 [some (.ref 900000), some (.int (nI c)), some (.int p), none, none] [] (wM Y F)
  refine G_aload_n (pc := 0) dX10_forceOf_0 rfl ?_
  refine G_iload_n (pc := 1) dX10_forceOf_1 rfl ?_
  refine K_Vn1r (pc := 2) (k' := (0, 0)) mok_X10_cueWith lk_X10_144 hS.1 rfl rfl rfl (aok0 rfl) dX10_forceOf_2 (C_cueWith hS _ _) rfl ?_
  rw [h]
  refine G_istore_n (pc := 5) dX10_forceOf_5 (by decide) ?_
  refine G_iload_n (pc := 6) dX10_forceOf_6 rfl ?_
  refine G_if_geN (pc := 7) (tgt := 18) (by omega) dX10_forceOf_7 (by decide) (fun c7 => ?_) (fun c7 => ?_)
  · skip
    refine G_iload_n (pc := 18) dX10_forceOf_18 rfl ?_
    refine G_sipush (pc := 19) (v := nI 200) dX10_forceOf_19 (by first | rfl | decide) ?_
    refine G_aload_n (pc := 22) dX10_forceOf_22 rfl ?_
    refine M_arr (pc := 23) (a := 1900108) hS fl_X10_33 rfl rfl dX10_forceOf_23 ?_
    refine G_iload_n (pc := 26) dX10_forceOf_26 rfl ?_
    refine M_ldv (pc := 27) (kk := 8) (j := u) (v := F 108 u) rfl hS rfl rfl rfl hu dX10_forceOf_27 ?_
    refine G_isub (pc := 28) dX10_forceOf_28 ?_
    refine G_imul (pc := 29) dX10_forceOf_29 ?_
    refine G_sipush (pc := 30) (v := nI 200) dX10_forceOf_30 (by first | rfl | decide) ?_
    refine G_idiv (pc := 33) dX10_forceOf_33 (by decide) ?_
    refine G_istore (pc := 34) dX10_forceOf_34 (by decide) ?_
    refine G_iload (pc := 36) dX10_forceOf_36 rfl ?_
    refine G_iconst (pc := 38) (v := nI 1) dX10_forceOf_38 (by first | rfl | decide) ?_
    refine G_icmp_ge (pc := 39) (tgt := 46) dX10_forceOf_39 (by decide) (fun c39 => ?_) (fun c39 => ?_)
    · skip
      refine G_iload (pc := 46) dX10_forceOf_46 rfl ?_
      refine G_iret (pc := 48) VZ.n dX10_forceOf_48 rfl ⟨by decide, by decide⟩ ?_
      refine ⟨congrArg (fun z => some (Value.int z)) ?_, rfl⟩
      unfold clip1
      first | exact (if_pos c39).symm | exact (if_neg c39).symm
    · skip
      refine G_iconst (pc := 42) (v := nI 1) dX10_forceOf_42 (by first | rfl | decide) ?_
      refine G_goto (pc := 43) (tgt := 48) dX10_forceOf_43 (by decide) ?_
      refine G_iret (pc := 48) VZ.n dX10_forceOf_48 rfl ⟨by decide, by decide⟩ ?_
      refine ⟨congrArg (fun z => some (Value.int z)) ?_, rfl⟩
      unfold clip1
      first | exact (if_pos c39).symm | exact (if_neg c39).symm
  · omega
theorem C_sumX {Γ : GTy} {Y : HS} (hS : MS Y) (F : FT) {x : Int32} (hx : ¬ (nI 0 ≤ x ∧ x ≤ nI 7)) : Tn Γ M_X10_sum [.ref 900000, .int x] (wM Y F) (rt (some (.int (nI 0))) (wM Y (thr F (nI 1)))) := by
  refine Tn_of' rfl rfl rfl ?_
  show G Γ M_X10_sum (rm M_X10_sum) (Vn Γ M_X10_sum (rt (some (.int (nI 0))) (wM Y (thr F (nI 1))))) (0, 0) 0 [some (.ref 900000), some (.int x)] [] (wM Y F)
  refine G_aload_n (pc := 0) dX10_sum_0 rfl ?_
  refine G_iload_n (pc := 1) dX10_sum_1 rfl ?_
  refine K_Sn1r (pc := 2) (k' := (0, 0)) mok_X10_isCustomer lk_X10_83 rfl (aok0 rfl) dX10_sum_2 (C_isCustomer _ _) rfl ?_
  refine G_if_eqB (pc := 5) (tgt := 12) dX10_sum_5 (by decide) (fun c5 => ?_) (fun c5 => ?_)
  · skip
    refine G_iconst (pc := 12) (v := nI 1) dX10_sum_12 (by first | rfl | decide) ?_
    refine M_put (pc := 13) hS fl_X10_72 fw_9_25 rfl dX10_sum_13 ?_
    refine G_aload_n (pc := 16) dX10_sum_16 rfl ?_
    refine M_get (pc := 17) hS fl_X10_72 rfl dX10_sum_17 ?_
    show G _ _ _ _ _ _ _ (.int (nI 1) :: _) _
    refine G_if_leN (pc := 20) (tgt := 27) (by omega) dX10_sum_20 (by decide) (fun h => absurd h (by decide)) (fun _ => ?_)
    refine G_iconst (pc := 23) (v := nI 0) dX10_sum_23 (by first | rfl | decide) ?_
    refine G_goto (pc := 24) (tgt := 48) dX10_sum_24 (by decide) ?_
    refine G_iret (pc := 48) VZ.n dX10_sum_48 rfl ⟨by decide, by decide⟩ ?_
    exact ⟨rfl, rfl⟩
  · exact absurd c5 hx
theorem C_sumN {Γ : GTy} {Y : HS} (hS : MS Y) (F : FT) {c : Nat} (hc : c < 8) : Tn Γ M_X10_sum [.ref 900000, .int (nI c)] (wM Y F) (rt (some (.int (F 106 c + (if 0 ≤ (lastW (fun k => F 107 k = nI (c + 1)) 6) then nI 20 else nI 0)))) (wM Y (thr F (nI 0)))) := by
  refine Tn_of' rfl rfl rfl ?_
  show G Γ M_X10_sum (rm M_X10_sum) (Vn Γ M_X10_sum (rt (some (.int (F 106 c + (if 0 ≤ (lastW (fun k => F 107 k = nI (c + 1)) 6) then nI 20 else nI 0)))) (wM Y (thr F (nI 0))))) (0, 0) 0 [some (.ref 900000), some (.int (nI c))] [] (wM Y F)
  refine G_aload_n (pc := 0) dX10_sum_0 rfl ?_
  refine G_iload_n (pc := 1) dX10_sum_1 rfl ?_
  refine K_Sn1r (pc := 2) (k' := (0, 0)) mok_X10_isCustomer lk_X10_83 rfl (aok0 rfl) dX10_sum_2 (C_isCustomerN hc _) rfl ?_
  refine G_if_eqN (pc := 5) (tgt := 12) (by omega) dX10_sum_5 (by decide) (fun h => absurd h (by decide)) (fun _ => ?_)
  refine G_iconst (pc := 8) (v := nI 0) dX10_sum_8 (by first | rfl | decide) ?_
  refine G_goto (pc := 9) (tgt := 13) dX10_sum_9 (by decide) ?_
  refine M_put (pc := 13) hS fl_X10_72 fw_9_25 rfl dX10_sum_13 ?_
  refine G_aload_n (pc := 16) dX10_sum_16 rfl ?_
  refine M_get (pc := 17) hS fl_X10_72 rfl dX10_sum_17 ?_
  show G _ _ _ _ _ _ _ (.int (nI 0) :: _) _
  refine G_if_leN (pc := 20) (tgt := 27) (by omega) dX10_sum_20 (by decide) (fun _ => ?_) (fun h => absurd h (by decide))
  refine G_aload_n (pc := 27) dX10_sum_27 rfl ?_
  refine M_arr (pc := 28) (a := 1900106) hS fl_X10_27 rfl rfl dX10_sum_28 ?_
  refine G_iload_n (pc := 31) dX10_sum_31 rfl ?_
  refine M_ldv (pc := 32) (kk := 6) (j := c) (v := F 106 c) rfl hS rfl rfl rfl hc dX10_sum_32 ?_
  refine G_aload_n (pc := 33) dX10_sum_33 rfl ?_
  refine G_iload_n (pc := 34) dX10_sum_34 rfl ?_
  refine K_Vn1r (pc := 35) (k' := (0, 0)) mok_X10_cueWith lk_X10_144 hS.1 rfl rfl rfl (aok0 rfl) dX10_sum_35 (C_cueWith hS _ _) rfl ?_
  show G _ _ _ _ _ _ _ (.int (lastW (fun k => F 107 k = nI (c + 1)) 6) :: _) _
  refine G_if_ge (pc := 38) (tgt := 45) dX10_sum_38 (by decide) (fun c38 => ?_) (fun c38 => ?_)
  · skip
    refine G_bipush (pc := 45) (v := nI 20) dX10_sum_45 (by first | rfl | decide) ?_
    refine G_iadd (pc := 47) dX10_sum_47 ?_
    refine G_iret (pc := 48) VZ.n dX10_sum_48 rfl ⟨by decide, by decide⟩ ?_
    simp only [rt]
    (first | rw [if_pos c38] | rw [if_neg c38])
    exact ⟨rfl, rfl⟩
  · skip
    refine G_iconst (pc := 41) (v := nI 0) dX10_sum_41 (by first | rfl | decide) ?_
    refine G_goto (pc := 42) (tgt := 47) dX10_sum_42 (by decide) ?_
    refine G_iadd (pc := 47) dX10_sum_47 ?_
    refine G_iret (pc := 48) VZ.n dX10_sum_48 rfl ⟨by decide, by decide⟩ ?_
    simp only [rt]
    (first | rw [if_pos c38] | rw [if_neg c38])
    exact ⟨rfl, rfl⟩
theorem C_owesX {Γ : GTy} {Y : HS} (hS : MS Y) (F : FT) {x : Int32} (hx : ¬ (nI 0 ≤ x ∧ x ≤ nI 7)) : Tn Γ M_X10_owes [.ref 900000, .int x] (wM Y F) (rt (some (.int (nI 0))) (wM Y (thr F (nI 1)))) := by
  refine Tn_of' rfl rfl rfl ?_
  show G Γ M_X10_owes (rm M_X10_owes) (Vn Γ M_X10_owes (rt (some (.int (nI 0))) (wM Y (thr F (nI 1))))) (0, 0) 0 [some (.ref 900000), some (.int x)] [] (wM Y F)
  refine G_aload_n (pc := 0) dX10_owes_0 rfl ?_
  refine G_iload_n (pc := 1) dX10_owes_1 rfl ?_
  refine K_Vn1r (pc := 2) (k' := (0, 0)) mok_X10_sum lk_X10_180 hS.1 rfl rfl rfl (aok0 rfl) dX10_owes_2 (C_sumX hS _ hx) rfl ?_
  refine G_iret (pc := 5) VZ.n dX10_owes_5 rfl ⟨by decide, by decide⟩ ?_
  exact ⟨rfl, rfl⟩
theorem C_owesN {Γ : GTy} {Y : HS} (hS : MS Y) (F : FT) {c : Nat} (hc : c < 8) : Tn Γ M_X10_owes [.ref 900000, .int (nI c)] (wM Y F) (rt (some (.int (F 106 c + (if 0 ≤ (lastW (fun k => F 107 k = nI (c + 1)) 6) then nI 20 else nI 0)))) (wM Y (thr F (nI 0)))) := by
  refine Tn_of' rfl rfl rfl ?_
  show G Γ M_X10_owes (rm M_X10_owes) (Vn Γ M_X10_owes (rt (some (.int (F 106 c + (if 0 ≤ (lastW (fun k => F 107 k = nI (c + 1)) 6) then nI 20 else nI 0)))) (wM Y (thr F (nI 0))))) (0, 0) 0 [some (.ref 900000), some (.int (nI c))] [] (wM Y F)
  refine G_aload_n (pc := 0) dX10_owes_0 rfl ?_
  refine G_iload_n (pc := 1) dX10_owes_1 rfl ?_
  refine K_Vn1r (pc := 2) (k' := (0, 0)) mok_X10_sum lk_X10_180 hS.1 rfl rfl rfl (aok0 rfl) dX10_owes_2 (C_sumN hS _ hc) rfl ?_
  refine G_iret (pc := 5) VZ.n dX10_owes_5 rfl ⟨by decide, by decide⟩ ?_
  exact ⟨rfl, rfl⟩
theorem C_owesAnewX {Γ : GTy} {Y : HS} (hS : MS Y) (F : FT) {x : Int32} (hx : ¬ (nI 0 ≤ x ∧ x ≤ nI 7)) : Tn Γ M_X10_owesAnew [.ref 900000, .int x] (wM Y F) (rt (some (.int (nI 0))) (wM Y (thr F (nI 1)))) := by
  refine Tn_of' rfl rfl rfl ?_
  show G Γ M_X10_owesAnew (rm M_X10_owesAnew) (Vn Γ M_X10_owesAnew (rt (some (.int (nI 0))) (wM Y (thr F (nI 1))))) (0, 0) 0 [some (.ref 900000), some (.int x)] [] (wM Y F)
  refine G_aload_n (pc := 0) dX10_owesAnew_0 rfl ?_
  refine G_iload_n (pc := 1) dX10_owesAnew_1 rfl ?_
  refine K_Vn1r (pc := 2) (k' := (0, 0)) mok_X10_sum lk_X10_180 hS.1 rfl rfl rfl (aok0 rfl) dX10_owesAnew_2 (C_sumX hS _ hx) rfl ?_
  refine G_iret (pc := 5) VZ.n dX10_owesAnew_5 rfl ⟨by decide, by decide⟩ ?_
  exact ⟨rfl, rfl⟩
theorem C_owesAnewN {Γ : GTy} {Y : HS} (hS : MS Y) (F : FT) {c : Nat} (hc : c < 8) : Tn Γ M_X10_owesAnew [.ref 900000, .int (nI c)] (wM Y F) (rt (some (.int (F 106 c + (if 0 ≤ (lastW (fun k => F 107 k = nI (c + 1)) 6) then nI 20 else nI 0)))) (wM Y (thr F (nI 0)))) := by
  refine Tn_of' rfl rfl rfl ?_
  show G Γ M_X10_owesAnew (rm M_X10_owesAnew) (Vn Γ M_X10_owesAnew (rt (some (.int (F 106 c + (if 0 ≤ (lastW (fun k => F 107 k = nI (c + 1)) 6) then nI 20 else nI 0)))) (wM Y (thr F (nI 0))))) (0, 0) 0 [some (.ref 900000), some (.int (nI c))] [] (wM Y F)
  refine G_aload_n (pc := 0) dX10_owesAnew_0 rfl ?_
  refine G_iload_n (pc := 1) dX10_owesAnew_1 rfl ?_
  refine K_Vn1r (pc := 2) (k' := (0, 0)) mok_X10_sum lk_X10_180 hS.1 rfl rfl rfl (aok0 rfl) dX10_owesAnew_2 (C_sumN hS _ hc) rfl ?_
  refine G_iret (pc := 5) VZ.n dX10_owesAnew_5 rfl ⟨by decide, by decide⟩ ?_
  exact ⟨rfl, rfl⟩
def wN (F : FT) (n c : Nat) : Nat := cnt (fun k => ¬ F 112 k = 0 ∧ F 117 k = nI c) n
theorem wN_le (F : FT) (n c : Nat) : wN F n c ≤ n := cnt_le _ n
theorem C_winsOf {Γ : GTy} {Y : HS} (hS : MS Y) (F : FT) {c n : Nat} (hn : F 10 0 = nI n) (n20 : n ≤ 20) : Tn Γ M_X10_winsOf [.ref 900000, .int (nI c)] (wM Y F) (rt (some (.int (nI (wN F n c)))) (wM Y F)) := by
  refine Tn_of' rfl rfl rfl ?_
  show G Γ M_X10_winsOf (rm M_X10_winsOf) (Vn Γ M_X10_winsOf (rt (some (.int (nI (wN F n c)))) (wM Y F))) (0, 0) 0 [some (.ref 900000), some (.int (nI c)), none, none] [] (wM Y F)
  have loop : ∀ (n9 j : Nat), j + n9 = n → G Γ M_X10_winsOf (rm M_X10_winsOf) (Vn Γ M_X10_winsOf (rt (some (.int (nI (wN F n c)))) (wM Y F))) (0, 0) 4 [some (.ref 900000), some (.int (nI c)), some (.int (nI (wN F j c))), some (.int (nI j))] [] (wM Y F) := by
    intro n9
    induction n9 with
    | zero =>
      intro j hj
      have hj8 : j = n := by omega
      rw [hj8]
      refine G_iload_n (pc := 4) dX10_winsOf_4 rfl ?_
      refine G_aload_n (pc := 5) dX10_winsOf_5 rfl ?_
      refine M_getv (pc := 6) (kk := 10) (v := nI n) hn hS fl_X10_103 rfl dX10_winsOf_6 ?_
      refine G_icmp_geN (pc := 9) (tgt := 45) (by omega) (by omega) dX10_winsOf_9 (by decide) (fun c9 => ?_) (fun c9 => ?_)
      · skip
        refine G_iload_n (pc := 45) dX10_winsOf_45 rfl ?_
        refine G_iret (pc := 46) VZ.n dX10_winsOf_46 rfl ⟨by decide, by decide⟩ ?_
        exact ⟨rfl, rfl⟩
      · omega
    | succ n9 ih =>
      intro j hj
      have hj9 : j < n := by omega
      refine G_iload_n (pc := 4) dX10_winsOf_4 rfl ?_
      refine G_aload_n (pc := 5) dX10_winsOf_5 rfl ?_
      refine M_getv (pc := 6) (kk := 10) (v := nI n) hn hS fl_X10_103 rfl dX10_winsOf_6 ?_
      refine G_icmp_geN (pc := 9) (tgt := 45) (by omega) (by omega) dX10_winsOf_9 (by decide) (fun c9 => ?_) (fun c9 => ?_)
      · omega
      · skip
        refine G_iload_n (pc := 12) dX10_winsOf_12 rfl ?_
        refine G_aload_n (pc := 13) dX10_winsOf_13 rfl ?_
        refine M_arr (pc := 14) (a := 1900112) hS fl_X10_42 rfl rfl dX10_winsOf_14 ?_
        refine G_iload_n (pc := 17) dX10_winsOf_17 rfl ?_
        refine M_bldv (pc := 18) (kk := 12) (j := j) (v := F 112 j) rfl hS rfl rfl rfl (show j < 20 by omega) dX10_winsOf_18 ?_
        refine G_if_eq (pc := 19) (tgt := 36) dX10_winsOf_19 (by decide) (fun c19 => ?_) (fun c19 => ?_)
        · skip
          refine G_iconst (pc := 36) (v := nI 0) dX10_winsOf_36 (by first | rfl | decide) ?_
          refine G_iaddN (pc := 37) dX10_winsOf_37 ?_
          refine G_istore_n (pc := 38) dX10_winsOf_38 (by decide) ?_
          refine G_iincN (pc := 39) dX10_winsOf_39 rfl (by decide) ?_
          refine G_goto (pc := 42) (tgt := 4) dX10_winsOf_42 (by decide) ?_
          have h9 := ih (j + 1) (by omega)
          have e9 : wN F (j + 1) c = cnt (fun k => ¬ F 112 k = 0 ∧ F 117 k = nI c) (j + 1) := rfl
          rw [e9] at h9
          first
            | (rw [cnt_t (p := (fun k => ¬ F 112 k = 0 ∧ F 117 k = nI c)) ⟨c19, c29⟩] at h9; exact h9)
            | (rw [cnt_f (p := (fun k => ¬ F 112 k = 0 ∧ F 117 k = nI c)) (fun g => c29 g.2)] at h9; exact h9)
            | (rw [cnt_f (p := (fun k => ¬ F 112 k = 0 ∧ F 117 k = nI c)) (fun g => g.1 c19)] at h9; exact h9)
        · skip
          refine G_aload_n (pc := 22) dX10_winsOf_22 rfl ?_
          refine M_arr (pc := 23) (a := 1900117) hS fl_X10_57 rfl rfl dX10_winsOf_23 ?_
          refine G_iload_n (pc := 26) dX10_winsOf_26 rfl ?_
          refine M_ldv (pc := 27) (kk := 17) (j := j) (v := F 117 j) rfl hS rfl rfl rfl (show j < 20 by omega) dX10_winsOf_27 ?_
          refine G_iload_n (pc := 28) dX10_winsOf_28 rfl ?_
          refine G_icmp_ne (pc := 29) (tgt := 36) dX10_winsOf_29 (by decide) (fun c29 => ?_) (fun c29 => ?_)
          · skip
            refine G_iconst (pc := 36) (v := nI 0) dX10_winsOf_36 (by first | rfl | decide) ?_
            refine G_iaddN (pc := 37) dX10_winsOf_37 ?_
            refine G_istore_n (pc := 38) dX10_winsOf_38 (by decide) ?_
            refine G_iincN (pc := 39) dX10_winsOf_39 rfl (by decide) ?_
            refine G_goto (pc := 42) (tgt := 4) dX10_winsOf_42 (by decide) ?_
            have h9 := ih (j + 1) (by omega)
            have e9 : wN F (j + 1) c = cnt (fun k => ¬ F 112 k = 0 ∧ F 117 k = nI c) (j + 1) := rfl
            rw [e9] at h9
            first
              | (rw [cnt_t (p := (fun k => ¬ F 112 k = 0 ∧ F 117 k = nI c)) ⟨c19, c29⟩] at h9; exact h9)
              | (rw [cnt_f (p := (fun k => ¬ F 112 k = 0 ∧ F 117 k = nI c)) (fun g => c29 g.2)] at h9; exact h9)
              | (rw [cnt_f (p := (fun k => ¬ F 112 k = 0 ∧ F 117 k = nI c)) (fun g => g.1 c19)] at h9; exact h9)
          · skip
            refine G_iconst (pc := 32) (v := nI 1) dX10_winsOf_32 (by first | rfl | decide) ?_
            refine G_goto (pc := 33) (tgt := 37) dX10_winsOf_33 (by decide) ?_
            refine G_iaddN (pc := 37) dX10_winsOf_37 ?_
            refine G_istore_n (pc := 38) dX10_winsOf_38 (by decide) ?_
            refine G_iincN (pc := 39) dX10_winsOf_39 rfl (by decide) ?_
            refine G_goto (pc := 42) (tgt := 4) dX10_winsOf_42 (by decide) ?_
            have h9 := ih (j + 1) (by omega)
            have e9 : wN F (j + 1) c = cnt (fun k => ¬ F 112 k = 0 ∧ F 117 k = nI c) (j + 1) := rfl
            rw [e9] at h9
            first
              | (rw [cnt_t (p := (fun k => ¬ F 112 k = 0 ∧ F 117 k = nI c)) ⟨c19, c29⟩] at h9; exact h9)
              | (rw [cnt_f (p := (fun k => ¬ F 112 k = 0 ∧ F 117 k = nI c)) (fun g => c29 g.2)] at h9; exact h9)
              | (rw [cnt_f (p := (fun k => ¬ F 112 k = 0 ∧ F 117 k = nI c)) (fun g => g.1 c19)] at h9; exact h9)
  refine G_iconst (pc := 0) (v := nI 0) dX10_winsOf_0 (by first | rfl | decide) ?_
  refine G_istore_n (pc := 1) dX10_winsOf_1 (by decide) ?_
  refine G_iconst (pc := 2) (v := nI 0) dX10_winsOf_2 (by first | rfl | decide) ?_
  refine G_istore_n (pc := 3) dX10_winsOf_3 (by decide) ?_
  exact loop n 0 (Nat.zero_add n)
