-- ===== rows more: tests of booleans and of naturals; beginnings =====
theorem cat_ok {as : List Value} (h : as.all (fun v => Nat.beq v.category 1) = true) : ∀ v ∈ as, v.category = 1 := fun v hv => Nat.eq_of_beq_eq_true (List.all_eq_true.mp h v hv)
section GB
variable {Γ : GTy} {μ : MTy} {R : Room} {W : WTy} {k : Nat × Nat} {pc : Nat} {L : List (Option Value)} {st : List Value} {Y : HS}
variable {QV : Option Value → HS → Prop} {QX : String → HS → Prop}
theorem Tn_of' {as : List Value} (hh : mH μ = []) (hp : plainName (mN μ).cls = true) (hq : (Nat.ble as.length (mL μ) && as.all (fun v => Nat.beq v.category 1)) = true) (h : G Γ μ (rm μ) (Vn Γ μ QV) (0, 0) 0 (L0 as (mL μ)) [] Y) : Tn Γ μ as Y QV := by
  simp only [Bool.and_eq_true] at hq
  exact Tn_of hh hp (Nat.le_of_ble_eq_true hq.1) (cat_ok hq.2) h
theorem Tt_of' {as : List Value} (hh : mH μ = []) (hp : plainName (mN μ).cls = true) (hq : (Nat.ble as.length (mL μ) && as.all (fun v => Nat.beq v.category 1)) = true) (h : G Γ μ (rm μ) (Vt Γ μ QV QX) (0, 0) 0 (L0 as (mL μ)) [] Y) : Tt Γ μ as Y QV QX := by
  simp only [Bool.and_eq_true] at hq
  exact Tt_of hh hp (Nat.le_of_ble_eq_true hq.1) (cat_ok hq.2) h
theorem Tw_of' {as : List Value} (hp : plainName (mN μ).cls = true) (hq : (Nat.ble as.length (mL μ) && as.all (fun v => Nat.beq v.category 1)) = true) (h : G Γ μ (rm μ) (Vt Γ μ QV QX) (0, 0) 0 (L0 as (mL μ)) [] Y) : Tw Γ μ as Y QV QX := by
  simp only [Bool.and_eq_true] at hq
  exact Tw_of hp (Nat.le_of_ble_eq_true hq.1) (cat_ok hq.2) h
theorem G_if_eqB {p : Prop} [Decidable p] {off : Int} {tgt : Nat} (hd : decode (mC μ) pc = .ok (.ifCond .eq off, 3)) (ht : (pc : Int) + off = (tgt : Int)) (kt : ¬ p → G Γ μ R W k tgt L st Y) (kf : p → G Γ μ R W k (pc + 3) L st Y) : G Γ μ R W k pc L (.int (b2 p) :: st) Y :=
  G_if_eq hd ht (fun h => kt (fun hp => absurd (h.symm.trans (b2_t hp)) (by decide))) (fun h => kf (Decidable.byContradiction (fun hp => h (b2_f hp))))
theorem G_if_neB {p : Prop} [Decidable p] {off : Int} {tgt : Nat} (hd : decode (mC μ) pc = .ok (.ifCond .ne off, 3)) (ht : (pc : Int) + off = (tgt : Int)) (kt : p → G Γ μ R W k tgt L st Y) (kf : ¬ p → G Γ μ R W k (pc + 3) L st Y) : G Γ μ R W k pc L (.int (b2 p) :: st) Y :=
  G_if_ne hd ht (fun h => kt (Decidable.byContradiction (fun hp => h (b2_f hp)))) (fun h => kf (fun hp => absurd (h.symm.trans (b2_t hp)) (by decide)))
theorem G_if_eqN {a : Nat} {off : Int} {tgt : Nat} (ha : a < 2 ^ 31) (hd : decode (mC μ) pc = .ok (.ifCond .eq off, 3)) (ht : (pc : Int) + off = (tgt : Int)) (kt : a = 0 → G Γ μ R W k tgt L st Y) (kf : a ≠ 0 → G Γ μ R W k (pc + 3) L st Y) : G Γ μ R W k pc L (.int (nI a) :: st) Y :=
  G_if_eq hd ht (fun h => kt ((nI_eq ha (by decide)).mp h)) (fun h => kf (fun e => h (by rw [e]; rfl)))
theorem G_if_neN {a : Nat} {off : Int} {tgt : Nat} (ha : a < 2 ^ 31) (hd : decode (mC μ) pc = .ok (.ifCond .ne off, 3)) (ht : (pc : Int) + off = (tgt : Int)) (kt : a ≠ 0 → G Γ μ R W k tgt L st Y) (kf : a = 0 → G Γ μ R W k (pc + 3) L st Y) : G Γ μ R W k pc L (.int (nI a) :: st) Y :=
  G_if_ne hd ht (fun h => kt (fun e => h (by rw [e]; rfl))) (fun h => kf ((nI_eq ha (by decide)).mp h))
theorem G_if_ltN {a : Nat} {off : Int} {tgt : Nat} (ha : a < 2 ^ 31) (hd : decode (mC μ) pc = .ok (.ifCond .lt off, 3)) (ht : (pc : Int) + off = (tgt : Int)) (_kt : a < 0 → G Γ μ R W k tgt L st Y) (kf : 0 ≤ a → G Γ μ R W k (pc + 3) L st Y) : G Γ μ R W k pc L (.int (nI a) :: st) Y :=
  G_if_lt hd ht (fun h => absurd h (nI_pos ha)) (fun _ => kf (Nat.zero_le _))
theorem G_if_geN {a : Nat} {off : Int} {tgt : Nat} (ha : a < 2 ^ 31) (hd : decode (mC μ) pc = .ok (.ifCond .ge off, 3)) (ht : (pc : Int) + off = (tgt : Int)) (kt : 0 ≤ a → G Γ μ R W k tgt L st Y) (_kf : a < 0 → G Γ μ R W k (pc + 3) L st Y) : G Γ μ R W k pc L (.int (nI a) :: st) Y :=
  G_if_ge hd ht (fun _ => kt (Nat.zero_le _)) (fun h => absurd (nI_pos' ha) h)
theorem G_if_gtN {a : Nat} {off : Int} {tgt : Nat} (ha : a < 2 ^ 31) (hd : decode (mC μ) pc = .ok (.ifCond .gt off, 3)) (ht : (pc : Int) + off = (tgt : Int)) (kt : 0 < a → G Γ μ R W k tgt L st Y) (kf : a = 0 → G Γ μ R W k (pc + 3) L st Y) : G Γ μ R W k pc L (.int (nI a) :: st) Y :=
  G_if_gt hd ht (fun h => kt ((nI_ltI (by decide) ha).mp h)) (fun h => kf (Decidable.byContradiction (fun e => h (show nI 0 < nI a from nI_lt (by omega) ha))))
theorem G_if_leN {a : Nat} {off : Int} {tgt : Nat} (ha : a < 2 ^ 31) (hd : decode (mC μ) pc = .ok (.ifCond .le off, 3)) (ht : (pc : Int) + off = (tgt : Int)) (kt : a = 0 → G Γ μ R W k tgt L st Y) (kf : 0 < a → G Γ μ R W k (pc + 3) L st Y) : G Γ μ R W k pc L (.int (nI a) :: st) Y :=
  G_if_le hd ht (fun h => kt (Decidable.byContradiction (fun e => nI_nle (by omega) ha h))) (fun h => kf (Decidable.byContradiction (fun e => h (by rw [show a = 0 by omega]; decide))))
end GB
