-- ===== refuses =====
theorem weak_take {j r : Nat} {L : List (Option Value)} : ∀ (i : Nat) (v : Value), (L.take j ++ List.replicate r none)[i]? = some (some v) → L[i]? = some (some v) := by
  intro i v h
  by_cases hi : i < (L.take j).length
  · rw [List.getElem?_append_left hi] at h
    have h2 := List.getElem?_take (l := L) (i := j) (j := i)
    rw [h2] at h
    split at h
    · exact h
    · cases h
  · rw [List.getElem?_append_right (by omega)] at h
    have := List.getElem?_replicate (a := (none : Option Value)) (n := r) (i := i - (L.take j).length)
    rw [this] at h
    split at h <;> simp at h
/-- a call of act in refuses -/
theorem RA {Γ : GTy} {W : WTy} {Z : HS} {kc ks pc : Nat} {L : List (Option Value)} {v1 v2 v3 v4 u : Value} (hc : Tw Γ M_L_act [.ref 800000, v1, v2, v3, v4] Z (rt (some u) Z) noX) (h1 : kc ≤ 5000) (h2 : ks ≤ 43000) (hH : SH Z) (hL : rfs L = [800000]) (hd : decode (mC M_L_refuses) pc = .ok (.invokestatic 122, 3)) (kk : G Γ M_L_refuses (rm M_L_refuses) W (kc + 12, ks + 100) (pc + 3) L [u] Z) : G Γ M_L_refuses (rm M_L_refuses) W (kc, ks) pc L [v4, v3, v2, v1, .ref 800000] Z := by
  refine K_SW5 (k' := (kc + 12, ks + 100)) mok_L_act lk_L_122 (rmB_le (a := 5000) (b := 43000) rfl h1 h2) (fun _ => ⟨rfl, fun r hr => by rw [hL] at hr; rw [List.mem_singleton.mp hr, sh_k hH]; decide, fun _ hr => nomatch hr⟩) hd hc rfl (fun v Y' q => ?_) (fun E Y' q => q.elim)
  obtain ⟨rfl, rfl⟩ := q
  exact kk
abbrev gR (Γ : GTy) (W : WTy) (kc ks pc : Nat) (L : List (Option Value)) (Z : HS) : Prop := G Γ M_L_refuses (rm M_L_refuses) W (kc, ks) pc L [] Z
section AT
variable {Γ : GTy} {n : Nat} {Z : HS} {F A : FT} {g : GN}
theorem actT (h : CI n Z F g A) {x : Int32} (hx : ¬ (nI 0 ≤ x ∧ x ≤ nI 3)) {w : Nat} (hw : (2 ≤ w ∧ w < 5) ∨ (13 ≤ w ∧ w < 17)) : Tw Γ M_L_act [.ref 800000, .int (nI w), .int x, .int (nI 0), .int (nI 0)] Z (rt (some (.int (-71))) Z) noX := by
  have q : w = 2 ∨ w = 3 ∨ w = 4 ∨ w = 13 ∨ w = 14 ∨ w = 15 ∨ w = 16 := by omega
  rcases q with rfl | rfl | rfl | rfl | rfl | rfl | rfl
  · exact ar_endX h hx
  · exact ar_tearX h hx
  · exact ar_mendX h hx
  · exact ar_isOpenX h hx
  · exact ar_renterX h hx
  · exact ar_clockX h hx
  · exact ar_frameOnX h hx
theorem actC (h : CI n Z F g A) {x : Int32} (hx : ¬ (nI 0 ≤ x ∧ x ≤ nI 7)) {w : Nat} (hw : 17 ≤ w ∧ w < 22) : Tw Γ M_L_act [.ref 800000, .int (nI w), .int x, .int (nI 0), .int (nI 0)] Z (rt (some (.int (-71))) Z) noX := by
  have q : w = 17 ∨ w = 18 ∨ w = 19 ∨ w = 20 ∨ w = 21 := by omega
  rcases q with rfl | rfl | rfl | rfl | rfl
  · exact ar_owesX h hx
  · exact ar_owesAnewX h hx
  · exact ar_winsX h hx
  · exact ar_rankX h hx
  · exact ar_cueOfX h hx
theorem actF (h : CI n Z F g A) {x : Int32} (hx : ¬ (nI 0 ≤ x ∧ x ≤ nI (g 16 0) - nI 1)) {w : Nat} (hw : 22 ≤ w ∧ w < 28) : Tw Γ M_L_act [.ref 800000, .int (nI w), .int x, .int (nI 0), .int (nI 0)] Z (rt (some (.int (-71))) Z) noX := by
  have q : w = 22 ∨ w = 23 ∨ w = 24 ∨ w = 25 ∨ w = 26 ∨ w = 27 := by omega
  rcases q with rfl | rfl | rfl | rfl | rfl | rfl
  · exact ar_stateX h hx
  · exact ar_ballOnX h hx
  · exact ar_isFreeX h hx
  · exact ar_turnX h hx
  · exact ar_pointsX h hx
  · exact ar_winnerX h hx
end AT
theorem what_a {Γ : GTy} {W : WTy} {n : Nat} {Z : HS} {F A : FT} {g : GN} (h : CI n Z F g A) {four six eight frame power none_ mi ow cl mo : Int32} (h4 : ¬ (nI 0 ≤ four ∧ four ≤ nI 3)) (h6 : ¬ (nI 0 ≤ six ∧ six ≤ nI 5)) (h8 : ¬ (nI 0 ≤ eight ∧ eight ≤ nI 7)) (hf : ¬ (nI 0 ≤ frame ∧ frame ≤ nI (g 16 0) - nI 1)) (hp : ¬ (nI 1 ≤ power ∧ power ≤ nI 40)) {K w kc ks : Nat} (hw : 2 ≤ w ∧ w < 5) (hK : K < 4) (hk1 : kc ≤ 4980) (hk2 : ks ≤ 42000)
    (kk : ∀ kc' ks' : Nat, kc' ≤ kc + 12 → ks' ≤ ks + 100 → gR Γ W kc' ks' 530 [some (.ref 800000), some (.int (nI (g 16 0))), some (.int mi), some (.int ow), some (.int cl), some (.int mo), some (.int (nI K)), some (.int none_), some (.int four), some (.int six), some (.int eight), some (.int frame), some (.int power), some (.int (nI 1)), some (.int (nI (w + 1))), none, none] Z) : gR Γ W kc ks 530 [some (.ref 800000), some (.int (nI (g 16 0))), some (.int mi), some (.int ow), some (.int cl), some (.int mo), some (.int (nI K)), some (.int none_), some (.int four), some (.int six), some (.int eight), some (.int frame), some (.int power), some (.int (nI 1)), some (.int (nI w)), none, none] Z := by
  have g20 := h.2.1.1.1.2.2
  show G Γ M_L_refuses (rm M_L_refuses) W (kc, ks) 530 [some (.ref 800000), some (.int (nI (g 16 0))), some (.int mi), some (.int ow), some (.int cl), some (.int mo), some (.int (nI K)), some (.int none_), some (.int four), some (.int six), some (.int eight), some (.int frame), some (.int power), some (.int (nI 1)), some (.int (nI w)), none, none] [] Z
  refine G_iload (pc := 530) dL_refuses_530 rfl ?_
  refine G_bipush (pc := 532) (v := nI 28) dL_refuses_532 (by first | rfl | decide) ?_
  refine G_icmp_geN (pc := 534) (tgt := 665) (by omega) (by omega) dL_refuses_534 (by decide) (fun c534 => ?_) (fun c534 => ?_)
  · omega
  · skip
    refine G_iload (pc := 537) dL_refuses_537 rfl ?_
    refine G_iconst (pc := 539) (v := nI 5) dL_refuses_539 (by first | rfl | decide) ?_
    refine G_icmp_ltN (pc := 540) (tgt := 557) (by omega) (by omega) dL_refuses_540 (by decide) (fun c540 => ?_) (fun c540 => ?_)
    · skip
      refine G_iconst (pc := 557) (v := nI 1) dL_refuses_557 (by first | rfl | decide) ?_
      refine G_goto (pc := 558) (tgt := 562) dL_refuses_558 (by decide) ?_
      refine G_istore (pc := 562) dL_refuses_562 (by decide) ?_
      refine G_iload (pc := 564) dL_refuses_564 rfl ?_
      refine G_bipush (pc := 566) (v := nI 16) dL_refuses_566 (by first | rfl | decide) ?_
      refine G_icmp_leN (pc := 568) (tgt := 582) (by omega) (by omega) dL_refuses_568 (by decide) (fun c568 => ?_) (fun c568 => ?_)
      · skip
        refine G_iconst (pc := 582) (v := nI 0) dL_refuses_582 (by first | rfl | decide) ?_
        refine G_istore (pc := 583) dL_refuses_583 (by decide) ?_
        refine G_iload (pc := 585) dL_refuses_585 rfl ?_
        refine G_if_eqN (pc := 587) (tgt := 656) (by omega) dL_refuses_587 (by decide) (fun h => absurd h (by decide)) (fun _ => ?_)
        refine G_iload (pc := 590) dL_refuses_590 rfl ?_
        refine G_if_eqN (pc := 592) (tgt := 610) (by omega) dL_refuses_592 (by decide) (fun h => absurd h (by decide)) (fun _ => ?_)
        refine G_aload_n (pc := 595) dL_refuses_595 rfl ?_
        refine G_iload (pc := 596) dL_refuses_596 rfl ?_
        refine G_iload (pc := 598) dL_refuses_598 rfl ?_
        refine G_iconst (pc := 600) (v := nI 0) dL_refuses_600 (by first | rfl | decide) ?_
        refine G_iconst (pc := 601) (v := nI 0) dL_refuses_601 (by first | rfl | decide) ?_
        refine RA (pc := 602) (actT h h4 (by omega)) (by omega) (by omega) h.1 rfl dL_refuses_602 ?_
        refine G_bipush (pc := 605) (v := (-71)) dL_refuses_605 (by first | rfl | decide) ?_
        refine G_icmp_ne (pc := 607) (tgt := 656) dL_refuses_607 (by decide) (fun h => absurd h (by decide)) (fun _ => ?_)
        refine G_iload (pc := 610) dL_refuses_610 rfl ?_
        refine G_if_eqN (pc := 612) (tgt := 630) (by omega) dL_refuses_612 (by decide) (fun _ => ?_) (fun h => absurd h (by decide))
        refine G_iload (pc := 630) dL_refuses_630 rfl ?_
        refine G_bipush (pc := 632) (v := nI 22) dL_refuses_632 (by first | rfl | decide) ?_
        refine G_icmp_ltN (pc := 634) (tgt := 652) (by omega) (by omega) dL_refuses_634 (by decide) (fun c634 => ?_) (fun c634 => ?_)
        · skip
          refine G_iconst (pc := 652) (v := nI 1) dL_refuses_652 (by first | rfl | decide) ?_
          refine G_goto (pc := 653) (tgt := 657) dL_refuses_653 (by decide) ?_
          refine G_istore (pc := 657) dL_refuses_657 (by decide) ?_
          refine G_iincN (pc := 659) dL_refuses_659 rfl (by decide) ?_
          refine G_goto (pc := 662) (tgt := 530) dL_refuses_662 (by decide) ?_
          refine G_weak (weak_take (j := 15) (r := 2)) ?_
          exact kk (kc + 12) (ks + 100) (by omega) (by omega)
        · omega
      · omega
    · omega
theorem what_b {Γ : GTy} {W : WTy} {n : Nat} {Z : HS} {F A : FT} {g : GN} (h : CI n Z F g A) {four six eight frame power none_ mi ow cl mo : Int32} (h4 : ¬ (nI 0 ≤ four ∧ four ≤ nI 3)) (h6 : ¬ (nI 0 ≤ six ∧ six ≤ nI 5)) (h8 : ¬ (nI 0 ≤ eight ∧ eight ≤ nI 7)) (hf : ¬ (nI 0 ≤ frame ∧ frame ≤ nI (g 16 0) - nI 1)) (hp : ¬ (nI 1 ≤ power ∧ power ≤ nI 40)) {K w kc ks : Nat} (hw : 5 ≤ w ∧ w < 13) (hK : K < 4) (hk1 : kc ≤ 4980) (hk2 : ks ≤ 42000)
    (kk : ∀ kc' ks' : Nat, kc' ≤ kc + 12 → ks' ≤ ks + 100 → gR Γ W kc' ks' 530 [some (.ref 800000), some (.int (nI (g 16 0))), some (.int mi), some (.int ow), some (.int cl), some (.int mo), some (.int (nI K)), some (.int none_), some (.int four), some (.int six), some (.int eight), some (.int frame), some (.int power), some (.int (nI 1)), some (.int (nI (w + 1))), none, none] Z) : gR Γ W kc ks 530 [some (.ref 800000), some (.int (nI (g 16 0))), some (.int mi), some (.int ow), some (.int cl), some (.int mo), some (.int (nI K)), some (.int none_), some (.int four), some (.int six), some (.int eight), some (.int frame), some (.int power), some (.int (nI 1)), some (.int (nI w)), none, none] Z := by
  have g20 := h.2.1.1.1.2.2
  show G Γ M_L_refuses (rm M_L_refuses) W (kc, ks) 530 [some (.ref 800000), some (.int (nI (g 16 0))), some (.int mi), some (.int ow), some (.int cl), some (.int mo), some (.int (nI K)), some (.int none_), some (.int four), some (.int six), some (.int eight), some (.int frame), some (.int power), some (.int (nI 1)), some (.int (nI w)), none, none] [] Z
  refine G_iload (pc := 530) dL_refuses_530 rfl ?_
  refine G_bipush (pc := 532) (v := nI 28) dL_refuses_532 (by first | rfl | decide) ?_
  refine G_icmp_geN (pc := 534) (tgt := 665) (by omega) (by omega) dL_refuses_534 (by decide) (fun c534 => ?_) (fun c534 => ?_)
  · omega
  · skip
    refine G_iload (pc := 537) dL_refuses_537 rfl ?_
    refine G_iconst (pc := 539) (v := nI 5) dL_refuses_539 (by first | rfl | decide) ?_
    refine G_icmp_ltN (pc := 540) (tgt := 557) (by omega) (by omega) dL_refuses_540 (by decide) (fun c540 => ?_) (fun c540 => ?_)
    · omega
    · skip
      refine G_iload (pc := 543) dL_refuses_543 rfl ?_
      refine G_bipush (pc := 545) (v := nI 12) dL_refuses_545 (by first | rfl | decide) ?_
      refine G_icmp_leN (pc := 547) (tgt := 561) (by omega) (by omega) dL_refuses_547 (by decide) (fun c547 => ?_) (fun c547 => ?_)
      · skip
        refine G_iconst (pc := 561) (v := nI 0) dL_refuses_561 (by first | rfl | decide) ?_
        refine G_istore (pc := 562) dL_refuses_562 (by decide) ?_
        refine G_iload (pc := 564) dL_refuses_564 rfl ?_
        refine G_bipush (pc := 566) (v := nI 16) dL_refuses_566 (by first | rfl | decide) ?_
        refine G_icmp_leN (pc := 568) (tgt := 582) (by omega) (by omega) dL_refuses_568 (by decide) (fun c568 => ?_) (fun c568 => ?_)
        · skip
          refine G_iconst (pc := 582) (v := nI 0) dL_refuses_582 (by first | rfl | decide) ?_
          refine G_istore (pc := 583) dL_refuses_583 (by decide) ?_
          refine G_iload (pc := 585) dL_refuses_585 rfl ?_
          refine G_if_eqN (pc := 587) (tgt := 656) (by omega) dL_refuses_587 (by decide) (fun h => absurd h (by decide)) (fun _ => ?_)
          refine G_iload (pc := 590) dL_refuses_590 rfl ?_
          refine G_if_eqN (pc := 592) (tgt := 610) (by omega) dL_refuses_592 (by decide) (fun _ => ?_) (fun h => absurd h (by decide))
          refine G_iload (pc := 610) dL_refuses_610 rfl ?_
          refine G_if_eqN (pc := 612) (tgt := 630) (by omega) dL_refuses_612 (by decide) (fun _ => ?_) (fun h => absurd h (by decide))
          refine G_iload (pc := 630) dL_refuses_630 rfl ?_
          refine G_bipush (pc := 632) (v := nI 22) dL_refuses_632 (by first | rfl | decide) ?_
          refine G_icmp_ltN (pc := 634) (tgt := 652) (by omega) (by omega) dL_refuses_634 (by decide) (fun c634 => ?_) (fun c634 => ?_)
          · skip
            refine G_iconst (pc := 652) (v := nI 1) dL_refuses_652 (by first | rfl | decide) ?_
            refine G_goto (pc := 653) (tgt := 657) dL_refuses_653 (by decide) ?_
            refine G_istore (pc := 657) dL_refuses_657 (by decide) ?_
            refine G_iincN (pc := 659) dL_refuses_659 rfl (by decide) ?_
            refine G_goto (pc := 662) (tgt := 530) dL_refuses_662 (by decide) ?_
            refine G_weak (weak_take (j := 15) (r := 2)) ?_
            exact kk (kc + 0) (ks + 0) (by omega) (by omega)
          · omega
        · omega
      · omega
theorem what_c {Γ : GTy} {W : WTy} {n : Nat} {Z : HS} {F A : FT} {g : GN} (h : CI n Z F g A) {four six eight frame power none_ mi ow cl mo : Int32} (h4 : ¬ (nI 0 ≤ four ∧ four ≤ nI 3)) (h6 : ¬ (nI 0 ≤ six ∧ six ≤ nI 5)) (h8 : ¬ (nI 0 ≤ eight ∧ eight ≤ nI 7)) (hf : ¬ (nI 0 ≤ frame ∧ frame ≤ nI (g 16 0) - nI 1)) (hp : ¬ (nI 1 ≤ power ∧ power ≤ nI 40)) {K w kc ks : Nat} (hw : 13 ≤ w ∧ w < 17) (hK : K < 4) (hk1 : kc ≤ 4980) (hk2 : ks ≤ 42000)
    (kk : ∀ kc' ks' : Nat, kc' ≤ kc + 12 → ks' ≤ ks + 100 → gR Γ W kc' ks' 530 [some (.ref 800000), some (.int (nI (g 16 0))), some (.int mi), some (.int ow), some (.int cl), some (.int mo), some (.int (nI K)), some (.int none_), some (.int four), some (.int six), some (.int eight), some (.int frame), some (.int power), some (.int (nI 1)), some (.int (nI (w + 1))), none, none] Z) : gR Γ W kc ks 530 [some (.ref 800000), some (.int (nI (g 16 0))), some (.int mi), some (.int ow), some (.int cl), some (.int mo), some (.int (nI K)), some (.int none_), some (.int four), some (.int six), some (.int eight), some (.int frame), some (.int power), some (.int (nI 1)), some (.int (nI w)), none, none] Z := by
  have g20 := h.2.1.1.1.2.2
  show G Γ M_L_refuses (rm M_L_refuses) W (kc, ks) 530 [some (.ref 800000), some (.int (nI (g 16 0))), some (.int mi), some (.int ow), some (.int cl), some (.int mo), some (.int (nI K)), some (.int none_), some (.int four), some (.int six), some (.int eight), some (.int frame), some (.int power), some (.int (nI 1)), some (.int (nI w)), none, none] [] Z
  refine G_iload (pc := 530) dL_refuses_530 rfl ?_
  refine G_bipush (pc := 532) (v := nI 28) dL_refuses_532 (by first | rfl | decide) ?_
  refine G_icmp_geN (pc := 534) (tgt := 665) (by omega) (by omega) dL_refuses_534 (by decide) (fun c534 => ?_) (fun c534 => ?_)
  · omega
  · skip
    refine G_iload (pc := 537) dL_refuses_537 rfl ?_
    refine G_iconst (pc := 539) (v := nI 5) dL_refuses_539 (by first | rfl | decide) ?_
    refine G_icmp_ltN (pc := 540) (tgt := 557) (by omega) (by omega) dL_refuses_540 (by decide) (fun c540 => ?_) (fun c540 => ?_)
    · omega
    · skip
      refine G_iload (pc := 543) dL_refuses_543 rfl ?_
      refine G_bipush (pc := 545) (v := nI 12) dL_refuses_545 (by first | rfl | decide) ?_
      refine G_icmp_leN (pc := 547) (tgt := 561) (by omega) (by omega) dL_refuses_547 (by decide) (fun c547 => ?_) (fun c547 => ?_)
      · omega
      · skip
        refine G_iload (pc := 550) dL_refuses_550 rfl ?_
        refine G_bipush (pc := 552) (v := nI 17) dL_refuses_552 (by first | rfl | decide) ?_
        refine G_icmp_geN (pc := 554) (tgt := 561) (by omega) (by omega) dL_refuses_554 (by decide) (fun c554 => ?_) (fun c554 => ?_)
        · omega
        · skip
          refine G_iconst (pc := 557) (v := nI 1) dL_refuses_557 (by first | rfl | decide) ?_
          refine G_goto (pc := 558) (tgt := 562) dL_refuses_558 (by decide) ?_
          refine G_istore (pc := 562) dL_refuses_562 (by decide) ?_
          refine G_iload (pc := 564) dL_refuses_564 rfl ?_
          refine G_bipush (pc := 566) (v := nI 16) dL_refuses_566 (by first | rfl | decide) ?_
          refine G_icmp_leN (pc := 568) (tgt := 582) (by omega) (by omega) dL_refuses_568 (by decide) (fun c568 => ?_) (fun c568 => ?_)
          · skip
            refine G_iconst (pc := 582) (v := nI 0) dL_refuses_582 (by first | rfl | decide) ?_
            refine G_istore (pc := 583) dL_refuses_583 (by decide) ?_
            refine G_iload (pc := 585) dL_refuses_585 rfl ?_
            refine G_if_eqN (pc := 587) (tgt := 656) (by omega) dL_refuses_587 (by decide) (fun h => absurd h (by decide)) (fun _ => ?_)
            refine G_iload (pc := 590) dL_refuses_590 rfl ?_
            refine G_if_eqN (pc := 592) (tgt := 610) (by omega) dL_refuses_592 (by decide) (fun h => absurd h (by decide)) (fun _ => ?_)
            refine G_aload_n (pc := 595) dL_refuses_595 rfl ?_
            refine G_iload (pc := 596) dL_refuses_596 rfl ?_
            refine G_iload (pc := 598) dL_refuses_598 rfl ?_
            refine G_iconst (pc := 600) (v := nI 0) dL_refuses_600 (by first | rfl | decide) ?_
            refine G_iconst (pc := 601) (v := nI 0) dL_refuses_601 (by first | rfl | decide) ?_
            refine RA (pc := 602) (actT h h4 (by omega)) (by omega) (by omega) h.1 rfl dL_refuses_602 ?_
            refine G_bipush (pc := 605) (v := (-71)) dL_refuses_605 (by first | rfl | decide) ?_
            refine G_icmp_ne (pc := 607) (tgt := 656) dL_refuses_607 (by decide) (fun h => absurd h (by decide)) (fun _ => ?_)
            refine G_iload (pc := 610) dL_refuses_610 rfl ?_
            refine G_if_eqN (pc := 612) (tgt := 630) (by omega) dL_refuses_612 (by decide) (fun _ => ?_) (fun h => absurd h (by decide))
            refine G_iload (pc := 630) dL_refuses_630 rfl ?_
            refine G_bipush (pc := 632) (v := nI 22) dL_refuses_632 (by first | rfl | decide) ?_
            refine G_icmp_ltN (pc := 634) (tgt := 652) (by omega) (by omega) dL_refuses_634 (by decide) (fun c634 => ?_) (fun c634 => ?_)
            · skip
              refine G_iconst (pc := 652) (v := nI 1) dL_refuses_652 (by first | rfl | decide) ?_
              refine G_goto (pc := 653) (tgt := 657) dL_refuses_653 (by decide) ?_
              refine G_istore (pc := 657) dL_refuses_657 (by decide) ?_
              refine G_iincN (pc := 659) dL_refuses_659 rfl (by decide) ?_
              refine G_goto (pc := 662) (tgt := 530) dL_refuses_662 (by decide) ?_
              refine G_weak (weak_take (j := 15) (r := 2)) ?_
              exact kk (kc + 12) (ks + 100) (by omega) (by omega)
            · omega
          · omega
theorem what_d {Γ : GTy} {W : WTy} {n : Nat} {Z : HS} {F A : FT} {g : GN} (h : CI n Z F g A) {four six eight frame power none_ mi ow cl mo : Int32} (h4 : ¬ (nI 0 ≤ four ∧ four ≤ nI 3)) (h6 : ¬ (nI 0 ≤ six ∧ six ≤ nI 5)) (h8 : ¬ (nI 0 ≤ eight ∧ eight ≤ nI 7)) (hf : ¬ (nI 0 ≤ frame ∧ frame ≤ nI (g 16 0) - nI 1)) (hp : ¬ (nI 1 ≤ power ∧ power ≤ nI 40)) {K w kc ks : Nat} (hw : 17 ≤ w ∧ w < 22) (hK : K < 4) (hk1 : kc ≤ 4980) (hk2 : ks ≤ 42000)
    (kk : ∀ kc' ks' : Nat, kc' ≤ kc + 12 → ks' ≤ ks + 100 → gR Γ W kc' ks' 530 [some (.ref 800000), some (.int (nI (g 16 0))), some (.int mi), some (.int ow), some (.int cl), some (.int mo), some (.int (nI K)), some (.int none_), some (.int four), some (.int six), some (.int eight), some (.int frame), some (.int power), some (.int (nI 1)), some (.int (nI (w + 1))), none, none] Z) : gR Γ W kc ks 530 [some (.ref 800000), some (.int (nI (g 16 0))), some (.int mi), some (.int ow), some (.int cl), some (.int mo), some (.int (nI K)), some (.int none_), some (.int four), some (.int six), some (.int eight), some (.int frame), some (.int power), some (.int (nI 1)), some (.int (nI w)), none, none] Z := by
  have g20 := h.2.1.1.1.2.2
  show G Γ M_L_refuses (rm M_L_refuses) W (kc, ks) 530 [some (.ref 800000), some (.int (nI (g 16 0))), some (.int mi), some (.int ow), some (.int cl), some (.int mo), some (.int (nI K)), some (.int none_), some (.int four), some (.int six), some (.int eight), some (.int frame), some (.int power), some (.int (nI 1)), some (.int (nI w)), none, none] [] Z
  refine G_iload (pc := 530) dL_refuses_530 rfl ?_
  refine G_bipush (pc := 532) (v := nI 28) dL_refuses_532 (by first | rfl | decide) ?_
  refine G_icmp_geN (pc := 534) (tgt := 665) (by omega) (by omega) dL_refuses_534 (by decide) (fun c534 => ?_) (fun c534 => ?_)
  · omega
  · skip
    refine G_iload (pc := 537) dL_refuses_537 rfl ?_
    refine G_iconst (pc := 539) (v := nI 5) dL_refuses_539 (by first | rfl | decide) ?_
    refine G_icmp_ltN (pc := 540) (tgt := 557) (by omega) (by omega) dL_refuses_540 (by decide) (fun c540 => ?_) (fun c540 => ?_)
    · omega
    · skip
      refine G_iload (pc := 543) dL_refuses_543 rfl ?_
      refine G_bipush (pc := 545) (v := nI 12) dL_refuses_545 (by first | rfl | decide) ?_
      refine G_icmp_leN (pc := 547) (tgt := 561) (by omega) (by omega) dL_refuses_547 (by decide) (fun c547 => ?_) (fun c547 => ?_)
      · omega
      · skip
        refine G_iload (pc := 550) dL_refuses_550 rfl ?_
        refine G_bipush (pc := 552) (v := nI 17) dL_refuses_552 (by first | rfl | decide) ?_
        refine G_icmp_geN (pc := 554) (tgt := 561) (by omega) (by omega) dL_refuses_554 (by decide) (fun c554 => ?_) (fun c554 => ?_)
        · skip
          refine G_iconst (pc := 561) (v := nI 0) dL_refuses_561 (by first | rfl | decide) ?_
          refine G_istore (pc := 562) dL_refuses_562 (by decide) ?_
          refine G_iload (pc := 564) dL_refuses_564 rfl ?_
          refine G_bipush (pc := 566) (v := nI 16) dL_refuses_566 (by first | rfl | decide) ?_
          refine G_icmp_leN (pc := 568) (tgt := 582) (by omega) (by omega) dL_refuses_568 (by decide) (fun c568 => ?_) (fun c568 => ?_)
          · omega
          · skip
            refine G_iload (pc := 571) dL_refuses_571 rfl ?_
            refine G_bipush (pc := 573) (v := nI 22) dL_refuses_573 (by first | rfl | decide) ?_
            refine G_icmp_geN (pc := 575) (tgt := 582) (by omega) (by omega) dL_refuses_575 (by decide) (fun c575 => ?_) (fun c575 => ?_)
            · omega
            · skip
              refine G_iconst (pc := 578) (v := nI 1) dL_refuses_578 (by first | rfl | decide) ?_
              refine G_goto (pc := 579) (tgt := 583) dL_refuses_579 (by decide) ?_
              refine G_istore (pc := 583) dL_refuses_583 (by decide) ?_
              refine G_iload (pc := 585) dL_refuses_585 rfl ?_
              refine G_if_eqN (pc := 587) (tgt := 656) (by omega) dL_refuses_587 (by decide) (fun h => absurd h (by decide)) (fun _ => ?_)
              refine G_iload (pc := 590) dL_refuses_590 rfl ?_
              refine G_if_eqN (pc := 592) (tgt := 610) (by omega) dL_refuses_592 (by decide) (fun _ => ?_) (fun h => absurd h (by decide))
              refine G_iload (pc := 610) dL_refuses_610 rfl ?_
              refine G_if_eqN (pc := 612) (tgt := 630) (by omega) dL_refuses_612 (by decide) (fun h => absurd h (by decide)) (fun _ => ?_)
              refine G_aload_n (pc := 615) dL_refuses_615 rfl ?_
              refine G_iload (pc := 616) dL_refuses_616 rfl ?_
              refine G_iload (pc := 618) dL_refuses_618 rfl ?_
              refine G_iconst (pc := 620) (v := nI 0) dL_refuses_620 (by first | rfl | decide) ?_
              refine G_iconst (pc := 621) (v := nI 0) dL_refuses_621 (by first | rfl | decide) ?_
              refine RA (pc := 622) (actC h h8 (by omega)) (by omega) (by omega) h.1 rfl dL_refuses_622 ?_
              refine G_bipush (pc := 625) (v := (-71)) dL_refuses_625 (by first | rfl | decide) ?_
              refine G_icmp_ne (pc := 627) (tgt := 656) dL_refuses_627 (by decide) (fun h => absurd h (by decide)) (fun _ => ?_)
              refine G_iload (pc := 630) dL_refuses_630 rfl ?_
              refine G_bipush (pc := 632) (v := nI 22) dL_refuses_632 (by first | rfl | decide) ?_
              refine G_icmp_ltN (pc := 634) (tgt := 652) (by omega) (by omega) dL_refuses_634 (by decide) (fun c634 => ?_) (fun c634 => ?_)
              · skip
                refine G_iconst (pc := 652) (v := nI 1) dL_refuses_652 (by first | rfl | decide) ?_
                refine G_goto (pc := 653) (tgt := 657) dL_refuses_653 (by decide) ?_
                refine G_istore (pc := 657) dL_refuses_657 (by decide) ?_
                refine G_iincN (pc := 659) dL_refuses_659 rfl (by decide) ?_
                refine G_goto (pc := 662) (tgt := 530) dL_refuses_662 (by decide) ?_
                refine G_weak (weak_take (j := 15) (r := 2)) ?_
                exact kk (kc + 12) (ks + 100) (by omega) (by omega)
              · omega
        · omega
theorem what_e {Γ : GTy} {W : WTy} {n : Nat} {Z : HS} {F A : FT} {g : GN} (h : CI n Z F g A) {four six eight frame power none_ mi ow cl mo : Int32} (h4 : ¬ (nI 0 ≤ four ∧ four ≤ nI 3)) (h6 : ¬ (nI 0 ≤ six ∧ six ≤ nI 5)) (h8 : ¬ (nI 0 ≤ eight ∧ eight ≤ nI 7)) (hf : ¬ (nI 0 ≤ frame ∧ frame ≤ nI (g 16 0) - nI 1)) (hp : ¬ (nI 1 ≤ power ∧ power ≤ nI 40)) {K w kc ks : Nat} (hw : 22 ≤ w ∧ w < 28) (hK : K < 4) (hk1 : kc ≤ 4980) (hk2 : ks ≤ 42000)
    (kk : ∀ kc' ks' : Nat, kc' ≤ kc + 12 → ks' ≤ ks + 100 → gR Γ W kc' ks' 530 [some (.ref 800000), some (.int (nI (g 16 0))), some (.int mi), some (.int ow), some (.int cl), some (.int mo), some (.int (nI K)), some (.int none_), some (.int four), some (.int six), some (.int eight), some (.int frame), some (.int power), some (.int (nI 1)), some (.int (nI (w + 1))), none, none] Z) : gR Γ W kc ks 530 [some (.ref 800000), some (.int (nI (g 16 0))), some (.int mi), some (.int ow), some (.int cl), some (.int mo), some (.int (nI K)), some (.int none_), some (.int four), some (.int six), some (.int eight), some (.int frame), some (.int power), some (.int (nI 1)), some (.int (nI w)), none, none] Z := by
  have g20 := h.2.1.1.1.2.2
  show G Γ M_L_refuses (rm M_L_refuses) W (kc, ks) 530 [some (.ref 800000), some (.int (nI (g 16 0))), some (.int mi), some (.int ow), some (.int cl), some (.int mo), some (.int (nI K)), some (.int none_), some (.int four), some (.int six), some (.int eight), some (.int frame), some (.int power), some (.int (nI 1)), some (.int (nI w)), none, none] [] Z
  refine G_iload (pc := 530) dL_refuses_530 rfl ?_
  refine G_bipush (pc := 532) (v := nI 28) dL_refuses_532 (by first | rfl | decide) ?_
  refine G_icmp_geN (pc := 534) (tgt := 665) (by omega) (by omega) dL_refuses_534 (by decide) (fun c534 => ?_) (fun c534 => ?_)
  · omega
  · skip
    refine G_iload (pc := 537) dL_refuses_537 rfl ?_
    refine G_iconst (pc := 539) (v := nI 5) dL_refuses_539 (by first | rfl | decide) ?_
    refine G_icmp_ltN (pc := 540) (tgt := 557) (by omega) (by omega) dL_refuses_540 (by decide) (fun c540 => ?_) (fun c540 => ?_)
    · omega
    · skip
      refine G_iload (pc := 543) dL_refuses_543 rfl ?_
      refine G_bipush (pc := 545) (v := nI 12) dL_refuses_545 (by first | rfl | decide) ?_
      refine G_icmp_leN (pc := 547) (tgt := 561) (by omega) (by omega) dL_refuses_547 (by decide) (fun c547 => ?_) (fun c547 => ?_)
      · omega
      · skip
        refine G_iload (pc := 550) dL_refuses_550 rfl ?_
        refine G_bipush (pc := 552) (v := nI 17) dL_refuses_552 (by first | rfl | decide) ?_
        refine G_icmp_geN (pc := 554) (tgt := 561) (by omega) (by omega) dL_refuses_554 (by decide) (fun c554 => ?_) (fun c554 => ?_)
        · skip
          refine G_iconst (pc := 561) (v := nI 0) dL_refuses_561 (by first | rfl | decide) ?_
          refine G_istore (pc := 562) dL_refuses_562 (by decide) ?_
          refine G_iload (pc := 564) dL_refuses_564 rfl ?_
          refine G_bipush (pc := 566) (v := nI 16) dL_refuses_566 (by first | rfl | decide) ?_
          refine G_icmp_leN (pc := 568) (tgt := 582) (by omega) (by omega) dL_refuses_568 (by decide) (fun c568 => ?_) (fun c568 => ?_)
          · omega
          · skip
            refine G_iload (pc := 571) dL_refuses_571 rfl ?_
            refine G_bipush (pc := 573) (v := nI 22) dL_refuses_573 (by first | rfl | decide) ?_
            refine G_icmp_geN (pc := 575) (tgt := 582) (by omega) (by omega) dL_refuses_575 (by decide) (fun c575 => ?_) (fun c575 => ?_)
            · skip
              refine G_iconst (pc := 582) (v := nI 0) dL_refuses_582 (by first | rfl | decide) ?_
              refine G_istore (pc := 583) dL_refuses_583 (by decide) ?_
              refine G_iload (pc := 585) dL_refuses_585 rfl ?_
              refine G_if_eqN (pc := 587) (tgt := 656) (by omega) dL_refuses_587 (by decide) (fun h => absurd h (by decide)) (fun _ => ?_)
              refine G_iload (pc := 590) dL_refuses_590 rfl ?_
              refine G_if_eqN (pc := 592) (tgt := 610) (by omega) dL_refuses_592 (by decide) (fun _ => ?_) (fun h => absurd h (by decide))
              refine G_iload (pc := 610) dL_refuses_610 rfl ?_
              refine G_if_eqN (pc := 612) (tgt := 630) (by omega) dL_refuses_612 (by decide) (fun _ => ?_) (fun h => absurd h (by decide))
              refine G_iload (pc := 630) dL_refuses_630 rfl ?_
              refine G_bipush (pc := 632) (v := nI 22) dL_refuses_632 (by first | rfl | decide) ?_
              refine G_icmp_ltN (pc := 634) (tgt := 652) (by omega) (by omega) dL_refuses_634 (by decide) (fun c634 => ?_) (fun c634 => ?_)
              · omega
              · skip
                refine G_aload_n (pc := 637) dL_refuses_637 rfl ?_
                refine G_iload (pc := 638) dL_refuses_638 rfl ?_
                refine G_iload (pc := 640) dL_refuses_640 rfl ?_
                refine G_iconst (pc := 642) (v := nI 0) dL_refuses_642 (by first | rfl | decide) ?_
                refine G_iconst (pc := 643) (v := nI 0) dL_refuses_643 (by first | rfl | decide) ?_
                refine RA (pc := 644) (actF h hf (by omega)) (by omega) (by omega) h.1 rfl dL_refuses_644 ?_
                refine G_bipush (pc := 647) (v := (-71)) dL_refuses_647 (by first | rfl | decide) ?_
                refine G_icmp_ne (pc := 649) (tgt := 656) dL_refuses_649 (by decide) (fun h => absurd h (by decide)) (fun _ => ?_)
                refine G_iconst (pc := 652) (v := nI 1) dL_refuses_652 (by first | rfl | decide) ?_
                refine G_goto (pc := 653) (tgt := 657) dL_refuses_653 (by decide) ?_
                refine G_istore (pc := 657) dL_refuses_657 (by decide) ?_
                refine G_iincN (pc := 659) dL_refuses_659 rfl (by decide) ?_
                refine G_goto (pc := 662) (tgt := 530) dL_refuses_662 (by decide) ?_
                refine G_weak (weak_take (j := 15) (r := 2)) ?_
                exact kk (kc + 12) (ks + 100) (by omega) (by omega)
            · omega
        · omega
theorem what_loop {Γ : GTy} {W : WTy} {n : Nat} {Z : HS} {F A : FT} {g : GN} (h : CI n Z F g A) {four six eight frame power none_ mi ow cl mo : Int32} (h4 : ¬ (nI 0 ≤ four ∧ four ≤ nI 3)) (h6 : ¬ (nI 0 ≤ six ∧ six ≤ nI 5)) (h8 : ¬ (nI 0 ≤ eight ∧ eight ≤ nI 7)) (hf : ¬ (nI 0 ≤ frame ∧ frame ≤ nI (g 16 0) - nI 1)) (hp : ¬ (nI 1 ≤ power ∧ power ≤ nI 40)) {K : Nat} (hK : K < 4) : ∀ (m w kc ks : Nat), w + m = 28 → 2 ≤ w → kc + 12 * m ≤ 4980 → ks + 100 * m ≤ 42000 → (∀ kc' ks' : Nat, kc' ≤ kc + 12 * m → ks' ≤ ks + 100 * m → gR Γ W kc' ks' 665 [some (.ref 800000), some (.int (nI (g 16 0))), some (.int mi), some (.int ow), some (.int cl), some (.int mo), some (.int (nI K)), some (.int none_), some (.int four), some (.int six), some (.int eight), some (.int frame), some (.int power), some (.int (nI 1)), some (.int (nI 28)), none, none] Z) → gR Γ W kc ks 530 [some (.ref 800000), some (.int (nI (g 16 0))), some (.int mi), some (.int ow), some (.int cl), some (.int mo), some (.int (nI K)), some (.int none_), some (.int four), some (.int six), some (.int eight), some (.int frame), some (.int power), some (.int (nI 1)), some (.int (nI w)), none, none] Z := by
  intro m
  induction m with
  | zero =>
    intro w kc ks hw h2 h3 h9 kk
    obtain rfl : w = 28 := by omega
    show G Γ M_L_refuses (rm M_L_refuses) W (kc, ks) 530 [some (.ref 800000), some (.int (nI (g 16 0))), some (.int mi), some (.int ow), some (.int cl), some (.int mo), some (.int (nI K)), some (.int none_), some (.int four), some (.int six), some (.int eight), some (.int frame), some (.int power), some (.int (nI 1)), some (.int (nI 28)), none, none] [] Z
    refine G_iload (pc := 530) dL_refuses_530 rfl ?_
    refine G_bipush (pc := 532) (v := nI 28) dL_refuses_532 (by first | rfl | decide) ?_
    refine G_icmp_geN (pc := 534) (tgt := 665) (by omega) (by omega) dL_refuses_534 (by decide) (fun _ => ?_) (fun c => by omega)
    exact kk kc ks (by omega) (by omega)
  | succ m ih =>
    intro w kc ks hw h2 h3 h9 kk
    have go : ∀ kc' ks' : Nat, kc' ≤ kc + 12 → ks' ≤ ks + 100 → gR Γ W kc' ks' 530 [some (.ref 800000), some (.int (nI (g 16 0))), some (.int mi), some (.int ow), some (.int cl), some (.int mo), some (.int (nI K)), some (.int none_), some (.int four), some (.int six), some (.int eight), some (.int frame), some (.int power), some (.int (nI 1)), some (.int (nI (w + 1))), none, none] Z := fun kc' ks' a1 a2 => ih (w + 1) kc' ks' (by omega) (by omega) (by omega) (by omega) (fun c1 c2 b1 b2 => kk c1 c2 (by omega) (by omega))
    by_cases q1 : w < 5
    · exact what_a h h4 h6 h8 hf hp ⟨by omega, by omega⟩ hK (by omega) (by omega) go
    · by_cases q2 : w < 13
      · exact what_b h h4 h6 h8 hf hp ⟨by omega, by omega⟩ hK (by omega) (by omega) go
      · by_cases q3 : w < 17
        · exact what_c h h4 h6 h8 hf hp ⟨by omega, by omega⟩ hK (by omega) (by omega) go
        · by_cases q4 : w < 22
          · exact what_d h h4 h6 h8 hf hp ⟨by omega, by omega⟩ hK (by omega) (by omega) go
          · exact what_e h h4 h6 h8 hf hp ⟨by omega, by omega⟩ hK (by omega) (by omega) go
theorem ref_tail {Γ : GTy} {W : WTy} {n : Nat} {Z : HS} {F A : FT} {g : GN} (h : CI n Z F g A) {four six eight frame power none_ mi ow cl mo : Int32} (h4 : ¬ (nI 0 ≤ four ∧ four ≤ nI 3)) (h6 : ¬ (nI 0 ≤ six ∧ six ≤ nI 5)) (h8 : ¬ (nI 0 ≤ eight ∧ eight ≤ nI 7)) (hf : ¬ (nI 0 ≤ frame ∧ frame ≤ nI (g 16 0) - nI 1)) (hp : ¬ (nI 1 ≤ power ∧ power ≤ nI 40)) {K kc ks : Nat} (hK : K < 4) (hk1 : kc ≤ 4900) (hk2 : ks ≤ 42000) (kk : ∀ kc' ks' : Nat, kc' ≤ kc + 72 → ks' ≤ ks + 600 → gR Γ W kc' ks' 25 [some (.ref 800000), some (.int (nI (g 16 0))), some (.int mi), some (.int ow), some (.int cl), some (.int mo), some (.int (nI (K + 1))), none, none, none, none, none, none, none, none, none, none] Z) : gR Γ W kc ks 665 [some (.ref 800000), some (.int (nI (g 16 0))), some (.int mi), some (.int ow), some (.int cl), some (.int mo), some (.int (nI K)), some (.int none_), some (.int four), some (.int six), some (.int eight), some (.int frame), some (.int power), some (.int (nI 1)), some (.int (nI 28)), none, none] Z := by
  have g20 := h.2.1.1.1.2.2
  show G Γ M_L_refuses (rm M_L_refuses) W (kc, ks) 665 [some (.ref 800000), some (.int (nI (g 16 0))), some (.int mi), some (.int ow), some (.int cl), some (.int mo), some (.int (nI K)), some (.int none_), some (.int four), some (.int six), some (.int eight), some (.int frame), some (.int power), some (.int (nI 1)), some (.int (nI 28)), none, none] [] Z
  rcases Nat.eq_zero_or_pos (g 16 0) with hg | hg
  · skip
    refine G_bipush (pc := 665) (v := nI 29) dL_refuses_665 (by first | rfl | decide) ?_
    refine G_istore (pc := 667) dL_refuses_667 (by decide) ?_
    refine G_iload (pc := 669) dL_refuses_669 rfl ?_
    refine G_bipush (pc := 671) (v := nI 31) dL_refuses_671 (by first | rfl | decide) ?_
    refine G_icmp_geN (pc := 673) (tgt := 728) (by omega) (by omega) dL_refuses_673 (by decide) (fun h => absurd h (by decide)) (fun _ => ?_)
    refine G_iload_n (pc := 676) dL_refuses_676 rfl ?_
    refine G_if_leN (pc := 677) (tgt := 728) (by omega) dL_refuses_677 (by decide) (fun c677 => ?_) (fun c677 => ?_)
    · skip
      refine G_iload (pc := 728) dL_refuses_728 rfl ?_
      refine G_if_eqN (pc := 730) (tgt := 767) (by omega) dL_refuses_730 (by decide) (fun h => absurd h (by decide)) (fun _ => ?_)
      refine G_iload_n (pc := 733) dL_refuses_733 rfl ?_
      refine G_if_leN (pc := 734) (tgt := 769) (by omega) dL_refuses_734 (by decide) (fun c734 => ?_) (fun c734 => ?_)
      · skip
        refine G_iincN (pc := 769) dL_refuses_769 rfl (by decide) ?_
        refine G_goto (pc := 772) (tgt := 25) dL_refuses_772 (by decide) ?_
        refine G_weak (weak_take (j := 7) (r := 10)) ?_
        exact kk _ _ (by omega) (by omega)
      · omega
    · omega
  · skip
    refine G_bipush (pc := 665) (v := nI 29) dL_refuses_665 (by first | rfl | decide) ?_
    refine G_istore (pc := 667) dL_refuses_667 (by decide) ?_
    refine G_iload (pc := 669) dL_refuses_669 rfl ?_
    refine G_bipush (pc := 671) (v := nI 31) dL_refuses_671 (by first | rfl | decide) ?_
    refine G_icmp_geN (pc := 673) (tgt := 728) (by omega) (by omega) dL_refuses_673 (by decide) (fun h => absurd h (by decide)) (fun _ => ?_)
    refine G_iload_n (pc := 676) dL_refuses_676 rfl ?_
    refine G_if_leN (pc := 677) (tgt := 728) (by omega) dL_refuses_677 (by decide) (fun c677 => ?_) (fun c677 => ?_)
    · omega
    · skip
      refine G_iload (pc := 680) dL_refuses_680 rfl ?_
      refine G_if_eqN (pc := 682) (tgt := 719) (by omega) dL_refuses_682 (by decide) (fun h => absurd h (by decide)) (fun _ => ?_)
      refine G_aload_n (pc := 685) dL_refuses_685 rfl ?_
      refine G_iload (pc := 686) dL_refuses_686 rfl ?_
      refine G_iconst (pc := 688) (v := nI 0) dL_refuses_688 (by first | rfl | decide) ?_
      refine G_iload (pc := 689) dL_refuses_689 rfl ?_
      refine G_iconst (pc := 691) (v := nI 5) dL_refuses_691 (by first | rfl | decide) ?_
      refine RA (pc := 692) (ar_contactsY h (f := 0) hg h8) (by omega) (by omega) h.1 rfl dL_refuses_692 ?_
      refine G_bipush (pc := 695) (v := (-72)) dL_refuses_695 (by first | rfl | decide) ?_
      refine G_icmp_ne (pc := 697) (tgt := 719) dL_refuses_697 (by decide) (fun h => absurd h (by decide)) (fun _ => ?_)
      refine G_aload_n (pc := 700) dL_refuses_700 rfl ?_
      refine G_iload (pc := 701) dL_refuses_701 rfl ?_
      refine G_iconst (pc := 703) (v := nI 0) dL_refuses_703 (by first | rfl | decide) ?_
      refine G_iconst (pc := 704) (v := nI 0) dL_refuses_704 (by first | rfl | decide) ?_
      refine G_iload (pc := 705) dL_refuses_705 rfl ?_
      refine RA (pc := 707) (ar_contactsZ h (f := 0) (d := 0) hg (by decide) hp) (by omega) (by omega) h.1 rfl dL_refuses_707 ?_
      refine G_bipush (pc := 710) (v := (-72)) dL_refuses_710 (by first | rfl | decide) ?_
      refine G_icmp_ne (pc := 712) (tgt := 719) dL_refuses_712 (by decide) (fun h => absurd h (by decide)) (fun _ => ?_)
      refine G_iconst (pc := 715) (v := nI 1) dL_refuses_715 (by first | rfl | decide) ?_
      refine G_goto (pc := 716) (tgt := 720) dL_refuses_716 (by decide) ?_
      refine G_istore (pc := 720) dL_refuses_720 (by decide) ?_
      refine G_iincN (pc := 722) dL_refuses_722 rfl (by decide) ?_
      refine G_goto (pc := 725) (tgt := 669) dL_refuses_725 (by decide) ?_
      refine G_iload (pc := 669) dL_refuses_669 rfl ?_
      refine G_bipush (pc := 671) (v := nI 31) dL_refuses_671 (by first | rfl | decide) ?_
      refine G_icmp_geN (pc := 673) (tgt := 728) (by omega) (by omega) dL_refuses_673 (by decide) (fun h => absurd h (by decide)) (fun _ => ?_)
      refine G_iload_n (pc := 676) dL_refuses_676 rfl ?_
      refine G_if_leN (pc := 677) (tgt := 728) (by omega) dL_refuses_677 (by decide) (fun c677 => ?_) (fun c677 => ?_)
      · omega
      · skip
        refine G_iload (pc := 680) dL_refuses_680 rfl ?_
        refine G_if_eqN (pc := 682) (tgt := 719) (by omega) dL_refuses_682 (by decide) (fun h => absurd h (by decide)) (fun _ => ?_)
        refine G_aload_n (pc := 685) dL_refuses_685 rfl ?_
        refine G_iload (pc := 686) dL_refuses_686 rfl ?_
        refine G_iconst (pc := 688) (v := nI 0) dL_refuses_688 (by first | rfl | decide) ?_
        refine G_iload (pc := 689) dL_refuses_689 rfl ?_
        refine G_iconst (pc := 691) (v := nI 5) dL_refuses_691 (by first | rfl | decide) ?_
        refine RA (pc := 692) (ar_contactsByPairsY h (f := 0) hg h8) (by omega) (by omega) h.1 rfl dL_refuses_692 ?_
        refine G_bipush (pc := 695) (v := (-72)) dL_refuses_695 (by first | rfl | decide) ?_
        refine G_icmp_ne (pc := 697) (tgt := 719) dL_refuses_697 (by decide) (fun h => absurd h (by decide)) (fun _ => ?_)
        refine G_aload_n (pc := 700) dL_refuses_700 rfl ?_
        refine G_iload (pc := 701) dL_refuses_701 rfl ?_
        refine G_iconst (pc := 703) (v := nI 0) dL_refuses_703 (by first | rfl | decide) ?_
        refine G_iconst (pc := 704) (v := nI 0) dL_refuses_704 (by first | rfl | decide) ?_
        refine G_iload (pc := 705) dL_refuses_705 rfl ?_
        refine RA (pc := 707) (ar_contactsByPairsZ h (f := 0) (d := 0) hg (by decide) hp) (by omega) (by omega) h.1 rfl dL_refuses_707 ?_
        refine G_bipush (pc := 710) (v := (-72)) dL_refuses_710 (by first | rfl | decide) ?_
        refine G_icmp_ne (pc := 712) (tgt := 719) dL_refuses_712 (by decide) (fun h => absurd h (by decide)) (fun _ => ?_)
        refine G_iconst (pc := 715) (v := nI 1) dL_refuses_715 (by first | rfl | decide) ?_
        refine G_goto (pc := 716) (tgt := 720) dL_refuses_716 (by decide) ?_
        refine G_istore (pc := 720) dL_refuses_720 (by decide) ?_
        refine G_iincN (pc := 722) dL_refuses_722 rfl (by decide) ?_
        refine G_goto (pc := 725) (tgt := 669) dL_refuses_725 (by decide) ?_
        refine G_iload (pc := 669) dL_refuses_669 rfl ?_
        refine G_bipush (pc := 671) (v := nI 31) dL_refuses_671 (by first | rfl | decide) ?_
        refine G_icmp_geN (pc := 673) (tgt := 728) (by omega) (by omega) dL_refuses_673 (by decide) (fun _ => ?_) (fun h => absurd h (by decide))
        refine G_iload (pc := 728) dL_refuses_728 rfl ?_
        refine G_if_eqN (pc := 730) (tgt := 767) (by omega) dL_refuses_730 (by decide) (fun h => absurd h (by decide)) (fun _ => ?_)
        refine G_iload_n (pc := 733) dL_refuses_733 rfl ?_
        refine G_if_leN (pc := 734) (tgt := 769) (by omega) dL_refuses_734 (by decide) (fun c734 => ?_) (fun c734 => ?_)
        · omega
        · skip
          refine G_aload_n (pc := 737) dL_refuses_737 rfl ?_
          refine G_bipush (pc := 738) (v := nI 9) dL_refuses_738 (by first | rfl | decide) ?_
          refine G_iconst (pc := 740) (v := nI 0) dL_refuses_740 (by first | rfl | decide) ?_
          refine G_iload (pc := 741) dL_refuses_741 rfl ?_
          refine G_iconst (pc := 743) (v := nI 5) dL_refuses_743 (by first | rfl | decide) ?_
          refine RA (pc := 744) (ar_shootY h (f := 0) hg h8) (by omega) (by omega) h.1 rfl dL_refuses_744 ?_
          refine G_bipush (pc := 747) (v := (-72)) dL_refuses_747 (by first | rfl | decide) ?_
          refine G_icmp_ne (pc := 749) (tgt := 767) dL_refuses_749 (by decide) (fun h => absurd h (by decide)) (fun _ => ?_)
          refine G_aload_n (pc := 752) dL_refuses_752 rfl ?_
          refine G_bipush (pc := 753) (v := nI 9) dL_refuses_753 (by first | rfl | decide) ?_
          refine G_iconst (pc := 755) (v := nI 0) dL_refuses_755 (by first | rfl | decide) ?_
          refine G_iconst (pc := 756) (v := nI 0) dL_refuses_756 (by first | rfl | decide) ?_
          refine G_iload (pc := 757) dL_refuses_757 rfl ?_
          refine RA (pc := 759) (ar_shootZ h (f := 0) (d := 0) hg (by decide) hp) (by omega) (by omega) h.1 rfl dL_refuses_759 ?_
          refine G_bipush (pc := 762) (v := (-72)) dL_refuses_762 (by first | rfl | decide) ?_
          refine G_icmp_eq (pc := 764) (tgt := 769) dL_refuses_764 (by decide) (fun _ => ?_) (fun h => absurd h (by decide))
          refine G_iincN (pc := 769) dL_refuses_769 rfl (by decide) ?_
          refine G_goto (pc := 772) (tgt := 25) dL_refuses_772 (by decide) ?_
          refine G_weak (weak_take (j := 7) (r := 10)) ?_
          exact kk _ _ (by omega) (by omega)
theorem ref_body_0 {Γ : GTy} {W : WTy} {n : Nat} {Z : HS} {F A : FT} {g : GN} (h : CI n Z F g A) {four six eight frame power none_ mi ow cl mo : Int32} (h4 : ¬ (nI 0 ≤ four ∧ four ≤ nI 3)) (h6 : ¬ (nI 0 ≤ six ∧ six ≤ nI 5)) (h8 : ¬ (nI 0 ≤ eight ∧ eight ≤ nI 7)) (hf : ¬ (nI 0 ≤ frame ∧ frame ≤ nI (g 16 0) - nI 1)) (hp : ¬ (nI 1 ≤ power ∧ power ≤ nI 40)) (h51 : ¬ (nI 0 ≤ none_ ∧ none_ ≤ nI 50)) {kc ks : Nat} (hk1 : kc ≤ 3000) (hk2 : ks ≤ 25000) (kk : ∀ kc' ks' : Nat, kc' ≤ kc + 700 → ks' ≤ ks + 5600 → gR Γ W kc' ks' 25 [some (.ref 800000), some (.int (nI (g 16 0))), some (.int mi), some (.int ow), some (.int cl), some (.int mo), some (.int (nI 1)), none, none, none, none, none, none, none, none, none, none] Z) : gR Γ W kc ks 140 [some (.ref 800000), some (.int (nI (g 16 0))), some (.int mi), some (.int ow), some (.int cl), some (.int mo), some (.int (nI 0)), some (.int none_), some (.int four), some (.int six), some (.int eight), some (.int frame), some (.int power), none, none, none, none] Z := by
  have g20 := h.2.1.1.1.2.2
  have hres : Tw Γ M_L_act [.ref 800000, .int (nI 8), .int (nI 0), .int four, .int (nI 0)] Z (rt (some (.int (-71))) Z) noX := by
    rcases Nat.eq_zero_or_pos (g 16 0) with hg | hg
    · exact ar_resumeX h (by rw [hg]; decide)
    · exact ar_resumeY h (f := 0) hg h4
  have hcel : Tw Γ M_L_act [.ref 800000, .int (nI 28), .int (nI 0), .int eight, .int (nI 0)] Z (rt (some (.int (-71))) Z) noX := by
    rcases Nat.eq_zero_or_pos (g 16 0) with hg | hg
    · exact ar_cellX h (by rw [hg]; decide)
    · exact ar_cellY h (f := 0) hg h8
  show G Γ M_L_refuses (rm M_L_refuses) W (kc, ks) 140 [some (.ref 800000), some (.int (nI (g 16 0))), some (.int mi), some (.int ow), some (.int cl), some (.int mo), some (.int (nI 0)), some (.int none_), some (.int four), some (.int six), some (.int eight), some (.int frame), some (.int power), none, none, none, none] [] Z
  refine G_aload_n (pc := 140) dL_refuses_140 rfl ?_
  refine G_iconst (pc := 141) (v := nI 0) dL_refuses_141 (by first | rfl | decide) ?_
  refine G_iload (pc := 142) dL_refuses_142 rfl ?_
  refine G_iconst (pc := 144) (v := nI 1) dL_refuses_144 (by first | rfl | decide) ?_
  refine G_icmp_neN (pc := 145) (tgt := 153) (by omega) (by omega) dL_refuses_145 (by decide) (fun _ => ?_) (fun h => absurd h (by decide))
  refine G_iload (pc := 153) dL_refuses_153 rfl ?_
  refine G_iconst (pc := 155) (v := nI 0) dL_refuses_155 (by first | rfl | decide) ?_
  refine G_iconst (pc := 156) (v := nI 0) dL_refuses_156 (by first | rfl | decide) ?_
  refine RA (pc := 157) (ar_setPriceX h h51) (by omega) (by omega) h.1 rfl dL_refuses_157 ?_
  refine G_bipush (pc := 160) (v := (-72)) dL_refuses_160 (by first | rfl | decide) ?_
  refine G_icmp_ne (pc := 162) (tgt := 524) dL_refuses_162 (by decide) (fun h => absurd h (by decide)) (fun _ => ?_)
  refine G_aload_n (pc := 165) dL_refuses_165 rfl ?_
  refine G_iconst (pc := 166) (v := nI 1) dL_refuses_166 (by first | rfl | decide) ?_
  refine G_iload (pc := 167) dL_refuses_167 rfl ?_
  refine G_iconst (pc := 169) (v := nI 0) dL_refuses_169 (by first | rfl | decide) ?_
  refine G_iconst (pc := 170) (v := nI 0) dL_refuses_170 (by first | rfl | decide) ?_
  refine RA (pc := 171) (ar_rentX h h4) (by omega) (by omega) h.1 rfl dL_refuses_171 ?_
  refine G_bipush (pc := 174) (v := (-71)) dL_refuses_174 (by first | rfl | decide) ?_
  refine G_icmp_ne (pc := 176) (tgt := 524) dL_refuses_176 (by decide) (fun h => absurd h (by decide)) (fun _ => ?_)
  refine G_aload_n (pc := 179) dL_refuses_179 rfl ?_
  refine G_iconst (pc := 180) (v := nI 1) dL_refuses_180 (by first | rfl | decide) ?_
  refine G_iconst (pc := 181) (v := nI 0) dL_refuses_181 (by first | rfl | decide) ?_
  refine G_iload (pc := 182) dL_refuses_182 rfl ?_
  refine G_iconst (pc := 184) (v := nI 0) dL_refuses_184 (by first | rfl | decide) ?_
  refine RA (pc := 185) (ar_rentY h (t := 0) (by decide) h8) (by omega) (by omega) h.1 rfl dL_refuses_185 ?_
  refine G_bipush (pc := 188) (v := (-71)) dL_refuses_188 (by first | rfl | decide) ?_
  refine G_icmp_ne (pc := 190) (tgt := 524) dL_refuses_190 (by decide) (fun h => absurd h (by decide)) (fun _ => ?_)
  refine G_aload_n (pc := 193) dL_refuses_193 rfl ?_
  refine G_iconst (pc := 194) (v := nI 5) dL_refuses_194 (by first | rfl | decide) ?_
  refine G_iload (pc := 195) dL_refuses_195 rfl ?_
  refine G_if_neN (pc := 197) (tgt := 204) (by omega) dL_refuses_197 (by decide) (fun h => absurd h (by decide)) (fun _ => ?_)
  refine G_iconst (pc := 200) (v := nI 0) dL_refuses_200 (by first | rfl | decide) ?_
  refine G_goto (pc := 201) (tgt := 218) dL_refuses_201 (by decide) ?_
  refine G_iconst (pc := 218) (v := nI 0) dL_refuses_218 (by first | rfl | decide) ?_
  refine G_iconst (pc := 219) (v := nI 0) dL_refuses_219 (by first | rfl | decide) ?_
  refine RA (pc := 220) (ar_passX h (by decide)) (by omega) (by omega) h.1 rfl dL_refuses_220 ?_
  refine G_bipush (pc := 223) (v := (-72)) dL_refuses_223 (by first | rfl | decide) ?_
  refine G_icmp_ne (pc := 225) (tgt := 524) dL_refuses_225 (by decide) (fun h => absurd h (by decide)) (fun _ => ?_)
  refine G_aload_n (pc := 228) dL_refuses_228 rfl ?_
  refine G_bipush (pc := 229) (v := nI 6) dL_refuses_229 (by first | rfl | decide) ?_
  refine G_iload (pc := 231) dL_refuses_231 rfl ?_
  refine G_iconst (pc := 233) (v := nI 0) dL_refuses_233 (by first | rfl | decide) ?_
  refine G_iconst (pc := 234) (v := nI 0) dL_refuses_234 (by first | rfl | decide) ?_
  refine RA (pc := 235) (ar_beginX_6 h h4) (by omega) (by omega) h.1 rfl dL_refuses_235 ?_
  refine G_bipush (pc := 238) (v := (-71)) dL_refuses_238 (by first | rfl | decide) ?_
  refine G_icmp_ne (pc := 240) (tgt := 524) dL_refuses_240 (by decide) (fun h => absurd h (by decide)) (fun _ => ?_)
  refine G_aload_n (pc := 243) dL_refuses_243 rfl ?_
  refine G_bipush (pc := 244) (v := nI 7) dL_refuses_244 (by first | rfl | decide) ?_
  refine G_iconst (pc := 246) (v := nI 0) dL_refuses_246 (by first | rfl | decide) ?_
  refine G_iload (pc := 247) dL_refuses_247 rfl ?_
  refine G_iload (pc := 249) dL_refuses_249 rfl ?_
  refine RA (pc := 251) (ar_beginY_7 h (t := 0) (by decide) h8) (by omega) (by omega) h.1 rfl dL_refuses_251 ?_
  refine G_bipush (pc := 254) (v := (-71)) dL_refuses_254 (by first | rfl | decide) ?_
  refine G_icmp_ne (pc := 256) (tgt := 524) dL_refuses_256 (by decide) (fun h => absurd h (by decide)) (fun _ => ?_)
  refine G_aload_n (pc := 259) dL_refuses_259 rfl ?_
  refine G_bipush (pc := 260) (v := nI 6) dL_refuses_260 (by first | rfl | decide) ?_
  refine G_iconst (pc := 262) (v := nI 0) dL_refuses_262 (by first | rfl | decide) ?_
  refine G_iconst (pc := 263) (v := nI 1) dL_refuses_263 (by first | rfl | decide) ?_
  refine G_iload (pc := 264) dL_refuses_264 rfl ?_
  refine RA (pc := 266) (ar_beginZ_6 h (t := 0) (a := 1) (by decide) (by decide) h8) (by omega) (by omega) h.1 rfl dL_refuses_266 ?_
  refine G_bipush (pc := 269) (v := (-71)) dL_refuses_269 (by first | rfl | decide) ?_
  refine G_icmp_ne (pc := 271) (tgt := 524) dL_refuses_271 (by decide) (fun h => absurd h (by decide)) (fun _ => ?_)
  refine G_aload_n (pc := 274) dL_refuses_274 rfl ?_
  refine G_bipush (pc := 275) (v := nI 6) dL_refuses_275 (by first | rfl | decide) ?_
  refine G_iload (pc := 277) dL_refuses_277 rfl ?_
  refine G_iload (pc := 279) dL_refuses_279 rfl ?_
  refine G_iload (pc := 281) dL_refuses_281 rfl ?_
  refine RA (pc := 283) (ar_beginU_6 h (t := 0) (a := 0) (by decide) (by decide)) (by omega) (by omega) h.1 rfl dL_refuses_283 ?_
  refine G_bipush (pc := 286) (v := (-72)) dL_refuses_286 (by first | rfl | decide) ?_
  refine G_icmp_ne (pc := 288) (tgt := 524) dL_refuses_288 (by decide) (fun h => absurd h (by decide)) (fun _ => ?_)
  refine G_aload_n (pc := 291) dL_refuses_291 rfl ?_
  refine G_bipush (pc := 292) (v := nI 7) dL_refuses_292 (by first | rfl | decide) ?_
  refine G_iconst (pc := 294) (v := nI 0) dL_refuses_294 (by first | rfl | decide) ?_
  refine G_iload (pc := 295) dL_refuses_295 rfl ?_
  refine G_iload (pc := 297) dL_refuses_297 rfl ?_
  refine RA (pc := 299) (ar_beginU_7 h (t := 0) (a := 0) (by decide) (by decide)) (by omega) (by omega) h.1 rfl dL_refuses_299 ?_
  refine G_bipush (pc := 302) (v := (-72)) dL_refuses_302 (by first | rfl | decide) ?_
  refine G_icmp_ne (pc := 304) (tgt := 524) dL_refuses_304 (by decide) (fun h => absurd h (by decide)) (fun _ => ?_)
  refine G_aload_n (pc := 307) dL_refuses_307 rfl ?_
  refine G_bipush (pc := 308) (v := nI 8) dL_refuses_308 (by first | rfl | decide) ?_
  refine G_iload (pc := 310) dL_refuses_310 rfl ?_
  refine G_iconst (pc := 312) (v := nI 0) dL_refuses_312 (by first | rfl | decide) ?_
  refine G_iconst (pc := 313) (v := nI 0) dL_refuses_313 (by first | rfl | decide) ?_
  refine RA (pc := 314) (ar_resumeX h hf) (by omega) (by omega) h.1 rfl dL_refuses_314 ?_
  refine G_bipush (pc := 317) (v := (-71)) dL_refuses_317 (by first | rfl | decide) ?_
  refine G_icmp_ne (pc := 319) (tgt := 524) dL_refuses_319 (by decide) (fun h => absurd h (by decide)) (fun _ => ?_)
  refine G_aload_n (pc := 322) dL_refuses_322 rfl ?_
  refine G_bipush (pc := 323) (v := nI 8) dL_refuses_323 (by first | rfl | decide) ?_
  refine G_iconst (pc := 325) (v := nI 0) dL_refuses_325 (by first | rfl | decide) ?_
  refine G_iload (pc := 326) dL_refuses_326 rfl ?_
  refine G_iconst (pc := 328) (v := nI 0) dL_refuses_328 (by first | rfl | decide) ?_
  refine RA (pc := 329) (hres) (by omega) (by omega) h.1 rfl dL_refuses_329 ?_
  refine G_bipush (pc := 332) (v := (-71)) dL_refuses_332 (by first | rfl | decide) ?_
  refine G_icmp_ne (pc := 334) (tgt := 524) dL_refuses_334 (by decide) (fun h => absurd h (by decide)) (fun _ => ?_)
  refine G_aload_n (pc := 337) dL_refuses_337 rfl ?_
  refine G_bipush (pc := 338) (v := nI 9) dL_refuses_338 (by first | rfl | decide) ?_
  refine G_iload (pc := 340) dL_refuses_340 rfl ?_
  refine G_bipush (pc := 342) (v := nI 9) dL_refuses_342 (by first | rfl | decide) ?_
  refine G_iconst (pc := 344) (v := nI 0) dL_refuses_344 (by first | rfl | decide) ?_
  refine RA (pc := 345) (ar_shootX h hf) (by omega) (by omega) h.1 rfl dL_refuses_345 ?_
  refine G_bipush (pc := 348) (v := (-71)) dL_refuses_348 (by first | rfl | decide) ?_
  refine G_icmp_ne (pc := 350) (tgt := 524) dL_refuses_350 (by decide) (fun h => absurd h (by decide)) (fun _ => ?_)
  refine G_aload_n (pc := 353) dL_refuses_353 rfl ?_
  refine G_bipush (pc := 354) (v := nI 10) dL_refuses_354 (by first | rfl | decide) ?_
  refine G_iload (pc := 356) dL_refuses_356 rfl ?_
  refine G_iconst (pc := 358) (v := nI 0) dL_refuses_358 (by first | rfl | decide) ?_
  refine G_iconst (pc := 359) (v := nI 0) dL_refuses_359 (by first | rfl | decide) ?_
  refine RA (pc := 360) (ar_lendX h h6) (by omega) (by omega) h.1 rfl dL_refuses_360 ?_
  refine G_bipush (pc := 363) (v := (-71)) dL_refuses_363 (by first | rfl | decide) ?_
  refine G_icmp_ne (pc := 365) (tgt := 524) dL_refuses_365 (by decide) (fun h => absurd h (by decide)) (fun _ => ?_)
  refine G_aload_n (pc := 368) dL_refuses_368 rfl ?_
  refine G_bipush (pc := 369) (v := nI 10) dL_refuses_369 (by first | rfl | decide) ?_
  refine G_iconst (pc := 371) (v := nI 0) dL_refuses_371 (by first | rfl | decide) ?_
  refine G_iload (pc := 372) dL_refuses_372 rfl ?_
  refine G_iconst (pc := 374) (v := nI 0) dL_refuses_374 (by first | rfl | decide) ?_
  refine RA (pc := 375) (ar_lendY h (u := 0) (by decide) h8) (by omega) (by omega) h.1 rfl dL_refuses_375 ?_
  refine G_bipush (pc := 378) (v := (-71)) dL_refuses_378 (by first | rfl | decide) ?_
  refine G_icmp_ne (pc := 380) (tgt := 524) dL_refuses_380 (by decide) (fun h => absurd h (by decide)) (fun _ => ?_)
  refine G_aload_n (pc := 383) dL_refuses_383 rfl ?_
  refine G_bipush (pc := 384) (v := nI 11) dL_refuses_384 (by first | rfl | decide) ?_
  refine G_iload (pc := 386) dL_refuses_386 rfl ?_
  refine G_iconst (pc := 388) (v := nI 0) dL_refuses_388 (by first | rfl | decide) ?_
  refine G_iconst (pc := 389) (v := nI 0) dL_refuses_389 (by first | rfl | decide) ?_
  refine RA (pc := 390) (ar_takeBackX h h6) (by omega) (by omega) h.1 rfl dL_refuses_390 ?_
  refine G_bipush (pc := 393) (v := (-71)) dL_refuses_393 (by first | rfl | decide) ?_
  refine G_icmp_ne (pc := 395) (tgt := 524) dL_refuses_395 (by decide) (fun h => absurd h (by decide)) (fun _ => ?_)
  refine G_aload_n (pc := 398) dL_refuses_398 rfl ?_
  refine G_bipush (pc := 399) (v := nI 12) dL_refuses_399 (by first | rfl | decide) ?_
  refine G_iload (pc := 401) dL_refuses_401 rfl ?_
  refine G_iconst (pc := 403) (v := nI 0) dL_refuses_403 (by first | rfl | decide) ?_
  refine G_iconst (pc := 404) (v := nI 0) dL_refuses_404 (by first | rfl | decide) ?_
  refine RA (pc := 405) (ar_tipX h h6) (by omega) (by omega) h.1 rfl dL_refuses_405 ?_
  refine G_bipush (pc := 408) (v := (-71)) dL_refuses_408 (by first | rfl | decide) ?_
  refine G_icmp_ne (pc := 410) (tgt := 524) dL_refuses_410 (by decide) (fun h => absurd h (by decide)) (fun _ => ?_)
  refine G_aload_n (pc := 413) dL_refuses_413 rfl ?_
  refine G_bipush (pc := 414) (v := nI 28) dL_refuses_414 (by first | rfl | decide) ?_
  refine G_iload (pc := 416) dL_refuses_416 rfl ?_
  refine G_iconst (pc := 418) (v := nI 0) dL_refuses_418 (by first | rfl | decide) ?_
  refine G_iconst (pc := 419) (v := nI 0) dL_refuses_419 (by first | rfl | decide) ?_
  refine RA (pc := 420) (ar_cellX h hf) (by omega) (by omega) h.1 rfl dL_refuses_420 ?_
  refine G_bipush (pc := 423) (v := (-71)) dL_refuses_423 (by first | rfl | decide) ?_
  refine G_icmp_ne (pc := 425) (tgt := 524) dL_refuses_425 (by decide) (fun h => absurd h (by decide)) (fun _ => ?_)
  refine G_aload_n (pc := 428) dL_refuses_428 rfl ?_
  refine G_bipush (pc := 429) (v := nI 28) dL_refuses_429 (by first | rfl | decide) ?_
  refine G_iconst (pc := 431) (v := nI 0) dL_refuses_431 (by first | rfl | decide) ?_
  refine G_iload (pc := 432) dL_refuses_432 rfl ?_
  refine G_iconst (pc := 434) (v := nI 0) dL_refuses_434 (by first | rfl | decide) ?_
  refine RA (pc := 435) (hcel) (by omega) (by omega) h.1 rfl dL_refuses_435 ?_
  refine G_bipush (pc := 438) (v := (-71)) dL_refuses_438 (by first | rfl | decide) ?_
  refine G_icmp_ne (pc := 440) (tgt := 524) dL_refuses_440 (by decide) (fun h => absurd h (by decide)) (fun _ => ?_)
  refine G_aload_n (pc := 443) dL_refuses_443 rfl ?_
  refine G_bipush (pc := 444) (v := nI 29) dL_refuses_444 (by first | rfl | decide) ?_
  refine G_iload (pc := 446) dL_refuses_446 rfl ?_
  refine G_bipush (pc := 448) (v := nI 9) dL_refuses_448 (by first | rfl | decide) ?_
  refine G_iconst (pc := 450) (v := nI 0) dL_refuses_450 (by first | rfl | decide) ?_
  refine RA (pc := 451) (ar_contactsX h hf) (by omega) (by omega) h.1 rfl dL_refuses_451 ?_
  refine G_bipush (pc := 454) (v := (-71)) dL_refuses_454 (by first | rfl | decide) ?_
  refine G_icmp_ne (pc := 456) (tgt := 524) dL_refuses_456 (by decide) (fun h => absurd h (by decide)) (fun _ => ?_)
  refine G_aload_n (pc := 459) dL_refuses_459 rfl ?_
  refine G_bipush (pc := 460) (v := nI 30) dL_refuses_460 (by first | rfl | decide) ?_
  refine G_iload (pc := 462) dL_refuses_462 rfl ?_
  refine G_bipush (pc := 464) (v := nI 9) dL_refuses_464 (by first | rfl | decide) ?_
  refine G_iconst (pc := 466) (v := nI 0) dL_refuses_466 (by first | rfl | decide) ?_
  refine RA (pc := 467) (ar_contactsByPairsX h hf) (by omega) (by omega) h.1 rfl dL_refuses_467 ?_
  refine G_bipush (pc := 470) (v := (-71)) dL_refuses_470 (by first | rfl | decide) ?_
  refine G_icmp_ne (pc := 472) (tgt := 524) dL_refuses_472 (by decide) (fun h => absurd h (by decide)) (fun _ => ?_)
  refine G_aload_n (pc := 475) dL_refuses_475 rfl ?_
  refine G_bipush (pc := 476) (v := nI 31) dL_refuses_476 (by first | rfl | decide) ?_
  refine G_iload (pc := 478) dL_refuses_478 rfl ?_
  refine G_iconst (pc := 480) (v := nI 0) dL_refuses_480 (by first | rfl | decide) ?_
  refine G_iconst (pc := 481) (v := nI 0) dL_refuses_481 (by first | rfl | decide) ?_
  refine RA (pc := 482) (ar_wearX h h6) (by omega) (by omega) h.1 rfl dL_refuses_482 ?_
  refine G_bipush (pc := 485) (v := (-71)) dL_refuses_485 (by first | rfl | decide) ?_
  refine G_icmp_ne (pc := 487) (tgt := 524) dL_refuses_487 (by decide) (fun h => absurd h (by decide)) (fun _ => ?_)
  refine G_aload_n (pc := 490) dL_refuses_490 rfl ?_
  refine G_bipush (pc := 491) (v := nI 32) dL_refuses_491 (by first | rfl | decide) ?_
  refine G_iload (pc := 493) dL_refuses_493 rfl ?_
  refine G_iconst (pc := 495) (v := nI 0) dL_refuses_495 (by first | rfl | decide) ?_
  refine G_iconst (pc := 496) (v := nI 0) dL_refuses_496 (by first | rfl | decide) ?_
  refine RA (pc := 497) (ar_forceX h h8) (by omega) (by omega) h.1 rfl dL_refuses_497 ?_
  refine G_bipush (pc := 500) (v := (-71)) dL_refuses_500 (by first | rfl | decide) ?_
  refine G_icmp_ne (pc := 502) (tgt := 524) dL_refuses_502 (by decide) (fun h => absurd h (by decide)) (fun _ => ?_)
  refine G_aload_n (pc := 505) dL_refuses_505 rfl ?_
  refine G_bipush (pc := 506) (v := nI 32) dL_refuses_506 (by first | rfl | decide) ?_
  refine G_iconst (pc := 508) (v := nI 0) dL_refuses_508 (by first | rfl | decide) ?_
  refine G_iload (pc := 509) dL_refuses_509 rfl ?_
  refine G_iconst (pc := 511) (v := nI 0) dL_refuses_511 (by first | rfl | decide) ?_
  refine RA (pc := 512) (ar_forceY h (c := 0) (by decide) hp) (by omega) (by omega) h.1 rfl dL_refuses_512 ?_
  refine G_bipush (pc := 515) (v := (-72)) dL_refuses_515 (by first | rfl | decide) ?_
  refine G_icmp_ne (pc := 517) (tgt := 524) dL_refuses_517 (by decide) (fun h => absurd h (by decide)) (fun _ => ?_)
  refine G_iconst (pc := 520) (v := nI 1) dL_refuses_520 (by first | rfl | decide) ?_
  refine G_goto (pc := 521) (tgt := 525) dL_refuses_521 (by decide) ?_
  refine G_istore (pc := 525) dL_refuses_525 (by decide) ?_
  refine G_iconst (pc := 527) (v := nI 2) dL_refuses_527 (by first | rfl | decide) ?_
  refine G_istore (pc := 528) dL_refuses_528 (by decide) ?_
  refine G_weak (weak_take (j := 15) (r := 2)) ?_
  exact what_loop h h4 h6 h8 hf hp (by decide) 26 2 _ _ rfl (by decide) (by omega) (by omega) (fun c1 c2 b1 b2 => ref_tail h h4 h6 h8 hf hp (by decide) (by omega) (by omega) (fun c3 c4 b3 b4 => kk c3 c4 (by omega) (by omega)))
theorem ref_body_1 {Γ : GTy} {W : WTy} {n : Nat} {Z : HS} {F A : FT} {g : GN} (h : CI n Z F g A) {four six eight frame power none_ mi ow cl mo : Int32} (h4 : ¬ (nI 0 ≤ four ∧ four ≤ nI 3)) (h6 : ¬ (nI 0 ≤ six ∧ six ≤ nI 5)) (h8 : ¬ (nI 0 ≤ eight ∧ eight ≤ nI 7)) (hf : ¬ (nI 0 ≤ frame ∧ frame ≤ nI (g 16 0) - nI 1)) (hp : ¬ (nI 1 ≤ power ∧ power ≤ nI 40)) {kc ks : Nat} (hk1 : kc ≤ 3000) (hk2 : ks ≤ 25000) (kk : ∀ kc' ks' : Nat, kc' ≤ kc + 700 → ks' ≤ ks + 5600 → gR Γ W kc' ks' 25 [some (.ref 800000), some (.int (nI (g 16 0))), some (.int mi), some (.int ow), some (.int cl), some (.int mo), some (.int (nI 2)), none, none, none, none, none, none, none, none, none, none] Z) : gR Γ W kc ks 140 [some (.ref 800000), some (.int (nI (g 16 0))), some (.int mi), some (.int ow), some (.int cl), some (.int mo), some (.int (nI 1)), some (.int none_), some (.int four), some (.int six), some (.int eight), some (.int frame), some (.int power), none, none, none, none] Z := by
  have g20 := h.2.1.1.1.2.2
  have hres : Tw Γ M_L_act [.ref 800000, .int (nI 8), .int (nI 0), .int four, .int (nI 0)] Z (rt (some (.int (-71))) Z) noX := by
    rcases Nat.eq_zero_or_pos (g 16 0) with hg | hg
    · exact ar_resumeX h (by rw [hg]; decide)
    · exact ar_resumeY h (f := 0) hg h4
  have hcel : Tw Γ M_L_act [.ref 800000, .int (nI 28), .int (nI 0), .int eight, .int (nI 0)] Z (rt (some (.int (-71))) Z) noX := by
    rcases Nat.eq_zero_or_pos (g 16 0) with hg | hg
    · exact ar_cellX h (by rw [hg]; decide)
    · exact ar_cellY h (f := 0) hg h8
  show G Γ M_L_refuses (rm M_L_refuses) W (kc, ks) 140 [some (.ref 800000), some (.int (nI (g 16 0))), some (.int mi), some (.int ow), some (.int cl), some (.int mo), some (.int (nI 1)), some (.int none_), some (.int four), some (.int six), some (.int eight), some (.int frame), some (.int power), none, none, none, none] [] Z
  refine G_aload_n (pc := 140) dL_refuses_140 rfl ?_
  refine G_iconst (pc := 141) (v := nI 0) dL_refuses_141 (by first | rfl | decide) ?_
  refine G_iload (pc := 142) dL_refuses_142 rfl ?_
  refine G_iconst (pc := 144) (v := nI 1) dL_refuses_144 (by first | rfl | decide) ?_
  refine G_icmp_neN (pc := 145) (tgt := 153) (by omega) (by omega) dL_refuses_145 (by decide) (fun h => absurd h (by decide)) (fun _ => ?_)
  refine G_bipush (pc := 148) (v := nI 51) dL_refuses_148 (by first | rfl | decide) ?_
  refine G_goto (pc := 150) (tgt := 155) dL_refuses_150 (by decide) ?_
  refine G_iconst (pc := 155) (v := nI 0) dL_refuses_155 (by first | rfl | decide) ?_
  refine G_iconst (pc := 156) (v := nI 0) dL_refuses_156 (by first | rfl | decide) ?_
  refine RA (pc := 157) (ar_setPriceX h (by decide)) (by omega) (by omega) h.1 rfl dL_refuses_157 ?_
  refine G_bipush (pc := 160) (v := (-72)) dL_refuses_160 (by first | rfl | decide) ?_
  refine G_icmp_ne (pc := 162) (tgt := 524) dL_refuses_162 (by decide) (fun h => absurd h (by decide)) (fun _ => ?_)
  refine G_aload_n (pc := 165) dL_refuses_165 rfl ?_
  refine G_iconst (pc := 166) (v := nI 1) dL_refuses_166 (by first | rfl | decide) ?_
  refine G_iload (pc := 167) dL_refuses_167 rfl ?_
  refine G_iconst (pc := 169) (v := nI 0) dL_refuses_169 (by first | rfl | decide) ?_
  refine G_iconst (pc := 170) (v := nI 0) dL_refuses_170 (by first | rfl | decide) ?_
  refine RA (pc := 171) (ar_rentX h h4) (by omega) (by omega) h.1 rfl dL_refuses_171 ?_
  refine G_bipush (pc := 174) (v := (-71)) dL_refuses_174 (by first | rfl | decide) ?_
  refine G_icmp_ne (pc := 176) (tgt := 524) dL_refuses_176 (by decide) (fun h => absurd h (by decide)) (fun _ => ?_)
  refine G_aload_n (pc := 179) dL_refuses_179 rfl ?_
  refine G_iconst (pc := 180) (v := nI 1) dL_refuses_180 (by first | rfl | decide) ?_
  refine G_iconst (pc := 181) (v := nI 0) dL_refuses_181 (by first | rfl | decide) ?_
  refine G_iload (pc := 182) dL_refuses_182 rfl ?_
  refine G_iconst (pc := 184) (v := nI 0) dL_refuses_184 (by first | rfl | decide) ?_
  refine RA (pc := 185) (ar_rentY h (t := 0) (by decide) h8) (by omega) (by omega) h.1 rfl dL_refuses_185 ?_
  refine G_bipush (pc := 188) (v := (-71)) dL_refuses_188 (by first | rfl | decide) ?_
  refine G_icmp_ne (pc := 190) (tgt := 524) dL_refuses_190 (by decide) (fun h => absurd h (by decide)) (fun _ => ?_)
  refine G_aload_n (pc := 193) dL_refuses_193 rfl ?_
  refine G_iconst (pc := 194) (v := nI 5) dL_refuses_194 (by first | rfl | decide) ?_
  refine G_iload (pc := 195) dL_refuses_195 rfl ?_
  refine G_if_neN (pc := 197) (tgt := 204) (by omega) dL_refuses_197 (by decide) (fun _ => ?_) (fun h => absurd h (by decide))
  refine G_iload (pc := 204) dL_refuses_204 rfl ?_
  refine G_iconst (pc := 206) (v := nI 1) dL_refuses_206 (by first | rfl | decide) ?_
  refine G_icmp_neN (pc := 207) (tgt := 216) (by omega) (by omega) dL_refuses_207 (by decide) (fun h => absurd h (by decide)) (fun _ => ?_)
  refine G_sipush (pc := 210) (v := nI 201) dL_refuses_210 (by first | rfl | decide) ?_
  refine G_goto (pc := 213) (tgt := 218) dL_refuses_213 (by decide) ?_
  refine G_iconst (pc := 218) (v := nI 0) dL_refuses_218 (by first | rfl | decide) ?_
  refine G_iconst (pc := 219) (v := nI 0) dL_refuses_219 (by first | rfl | decide) ?_
  refine RA (pc := 220) (ar_passX h (by decide)) (by omega) (by omega) h.1 rfl dL_refuses_220 ?_
  refine G_bipush (pc := 223) (v := (-72)) dL_refuses_223 (by first | rfl | decide) ?_
  refine G_icmp_ne (pc := 225) (tgt := 524) dL_refuses_225 (by decide) (fun h => absurd h (by decide)) (fun _ => ?_)
  refine G_aload_n (pc := 228) dL_refuses_228 rfl ?_
  refine G_bipush (pc := 229) (v := nI 6) dL_refuses_229 (by first | rfl | decide) ?_
  refine G_iload (pc := 231) dL_refuses_231 rfl ?_
  refine G_iconst (pc := 233) (v := nI 0) dL_refuses_233 (by first | rfl | decide) ?_
  refine G_iconst (pc := 234) (v := nI 0) dL_refuses_234 (by first | rfl | decide) ?_
  refine RA (pc := 235) (ar_beginX_6 h h4) (by omega) (by omega) h.1 rfl dL_refuses_235 ?_
  refine G_bipush (pc := 238) (v := (-71)) dL_refuses_238 (by first | rfl | decide) ?_
  refine G_icmp_ne (pc := 240) (tgt := 524) dL_refuses_240 (by decide) (fun h => absurd h (by decide)) (fun _ => ?_)
  refine G_aload_n (pc := 243) dL_refuses_243 rfl ?_
  refine G_bipush (pc := 244) (v := nI 7) dL_refuses_244 (by first | rfl | decide) ?_
  refine G_iconst (pc := 246) (v := nI 0) dL_refuses_246 (by first | rfl | decide) ?_
  refine G_iload (pc := 247) dL_refuses_247 rfl ?_
  refine G_iload (pc := 249) dL_refuses_249 rfl ?_
  refine RA (pc := 251) (ar_beginY_7 h (t := 0) (by decide) h8) (by omega) (by omega) h.1 rfl dL_refuses_251 ?_
  refine G_bipush (pc := 254) (v := (-71)) dL_refuses_254 (by first | rfl | decide) ?_
  refine G_icmp_ne (pc := 256) (tgt := 524) dL_refuses_256 (by decide) (fun h => absurd h (by decide)) (fun _ => ?_)
  refine G_aload_n (pc := 259) dL_refuses_259 rfl ?_
  refine G_bipush (pc := 260) (v := nI 6) dL_refuses_260 (by first | rfl | decide) ?_
  refine G_iconst (pc := 262) (v := nI 0) dL_refuses_262 (by first | rfl | decide) ?_
  refine G_iconst (pc := 263) (v := nI 1) dL_refuses_263 (by first | rfl | decide) ?_
  refine G_iload (pc := 264) dL_refuses_264 rfl ?_
  refine RA (pc := 266) (ar_beginZ_6 h (t := 0) (a := 1) (by decide) (by decide) h8) (by omega) (by omega) h.1 rfl dL_refuses_266 ?_
  refine G_bipush (pc := 269) (v := (-71)) dL_refuses_269 (by first | rfl | decide) ?_
  refine G_icmp_ne (pc := 271) (tgt := 524) dL_refuses_271 (by decide) (fun h => absurd h (by decide)) (fun _ => ?_)
  refine G_aload_n (pc := 274) dL_refuses_274 rfl ?_
  refine G_bipush (pc := 275) (v := nI 6) dL_refuses_275 (by first | rfl | decide) ?_
  refine G_iload (pc := 277) dL_refuses_277 rfl ?_
  refine G_iload (pc := 279) dL_refuses_279 rfl ?_
  refine G_iload (pc := 281) dL_refuses_281 rfl ?_
  refine RA (pc := 283) (ar_beginU_6 h (t := 1) (a := 1) (by decide) (by decide)) (by omega) (by omega) h.1 rfl dL_refuses_283 ?_
  refine G_bipush (pc := 286) (v := (-72)) dL_refuses_286 (by first | rfl | decide) ?_
  refine G_icmp_ne (pc := 288) (tgt := 524) dL_refuses_288 (by decide) (fun h => absurd h (by decide)) (fun _ => ?_)
  refine G_aload_n (pc := 291) dL_refuses_291 rfl ?_
  refine G_bipush (pc := 292) (v := nI 7) dL_refuses_292 (by first | rfl | decide) ?_
  refine G_iconst (pc := 294) (v := nI 0) dL_refuses_294 (by first | rfl | decide) ?_
  refine G_iload (pc := 295) dL_refuses_295 rfl ?_
  refine G_iload (pc := 297) dL_refuses_297 rfl ?_
  refine RA (pc := 299) (ar_beginU_7 h (t := 0) (a := 1) (by decide) (by decide)) (by omega) (by omega) h.1 rfl dL_refuses_299 ?_
  refine G_bipush (pc := 302) (v := (-72)) dL_refuses_302 (by first | rfl | decide) ?_
  refine G_icmp_ne (pc := 304) (tgt := 524) dL_refuses_304 (by decide) (fun h => absurd h (by decide)) (fun _ => ?_)
  refine G_aload_n (pc := 307) dL_refuses_307 rfl ?_
  refine G_bipush (pc := 308) (v := nI 8) dL_refuses_308 (by first | rfl | decide) ?_
  refine G_iload (pc := 310) dL_refuses_310 rfl ?_
  refine G_iconst (pc := 312) (v := nI 0) dL_refuses_312 (by first | rfl | decide) ?_
  refine G_iconst (pc := 313) (v := nI 0) dL_refuses_313 (by first | rfl | decide) ?_
  refine RA (pc := 314) (ar_resumeX h hf) (by omega) (by omega) h.1 rfl dL_refuses_314 ?_
  refine G_bipush (pc := 317) (v := (-71)) dL_refuses_317 (by first | rfl | decide) ?_
  refine G_icmp_ne (pc := 319) (tgt := 524) dL_refuses_319 (by decide) (fun h => absurd h (by decide)) (fun _ => ?_)
  refine G_aload_n (pc := 322) dL_refuses_322 rfl ?_
  refine G_bipush (pc := 323) (v := nI 8) dL_refuses_323 (by first | rfl | decide) ?_
  refine G_iconst (pc := 325) (v := nI 0) dL_refuses_325 (by first | rfl | decide) ?_
  refine G_iload (pc := 326) dL_refuses_326 rfl ?_
  refine G_iconst (pc := 328) (v := nI 0) dL_refuses_328 (by first | rfl | decide) ?_
  refine RA (pc := 329) (hres) (by omega) (by omega) h.1 rfl dL_refuses_329 ?_
  refine G_bipush (pc := 332) (v := (-71)) dL_refuses_332 (by first | rfl | decide) ?_
  refine G_icmp_ne (pc := 334) (tgt := 524) dL_refuses_334 (by decide) (fun h => absurd h (by decide)) (fun _ => ?_)
  refine G_aload_n (pc := 337) dL_refuses_337 rfl ?_
  refine G_bipush (pc := 338) (v := nI 9) dL_refuses_338 (by first | rfl | decide) ?_
  refine G_iload (pc := 340) dL_refuses_340 rfl ?_
  refine G_bipush (pc := 342) (v := nI 9) dL_refuses_342 (by first | rfl | decide) ?_
  refine G_iconst (pc := 344) (v := nI 0) dL_refuses_344 (by first | rfl | decide) ?_
  refine RA (pc := 345) (ar_shootX h hf) (by omega) (by omega) h.1 rfl dL_refuses_345 ?_
  refine G_bipush (pc := 348) (v := (-71)) dL_refuses_348 (by first | rfl | decide) ?_
  refine G_icmp_ne (pc := 350) (tgt := 524) dL_refuses_350 (by decide) (fun h => absurd h (by decide)) (fun _ => ?_)
  refine G_aload_n (pc := 353) dL_refuses_353 rfl ?_
  refine G_bipush (pc := 354) (v := nI 10) dL_refuses_354 (by first | rfl | decide) ?_
  refine G_iload (pc := 356) dL_refuses_356 rfl ?_
  refine G_iconst (pc := 358) (v := nI 0) dL_refuses_358 (by first | rfl | decide) ?_
  refine G_iconst (pc := 359) (v := nI 0) dL_refuses_359 (by first | rfl | decide) ?_
  refine RA (pc := 360) (ar_lendX h h6) (by omega) (by omega) h.1 rfl dL_refuses_360 ?_
  refine G_bipush (pc := 363) (v := (-71)) dL_refuses_363 (by first | rfl | decide) ?_
  refine G_icmp_ne (pc := 365) (tgt := 524) dL_refuses_365 (by decide) (fun h => absurd h (by decide)) (fun _ => ?_)
  refine G_aload_n (pc := 368) dL_refuses_368 rfl ?_
  refine G_bipush (pc := 369) (v := nI 10) dL_refuses_369 (by first | rfl | decide) ?_
  refine G_iconst (pc := 371) (v := nI 0) dL_refuses_371 (by first | rfl | decide) ?_
  refine G_iload (pc := 372) dL_refuses_372 rfl ?_
  refine G_iconst (pc := 374) (v := nI 0) dL_refuses_374 (by first | rfl | decide) ?_
  refine RA (pc := 375) (ar_lendY h (u := 0) (by decide) h8) (by omega) (by omega) h.1 rfl dL_refuses_375 ?_
  refine G_bipush (pc := 378) (v := (-71)) dL_refuses_378 (by first | rfl | decide) ?_
  refine G_icmp_ne (pc := 380) (tgt := 524) dL_refuses_380 (by decide) (fun h => absurd h (by decide)) (fun _ => ?_)
  refine G_aload_n (pc := 383) dL_refuses_383 rfl ?_
  refine G_bipush (pc := 384) (v := nI 11) dL_refuses_384 (by first | rfl | decide) ?_
  refine G_iload (pc := 386) dL_refuses_386 rfl ?_
  refine G_iconst (pc := 388) (v := nI 0) dL_refuses_388 (by first | rfl | decide) ?_
  refine G_iconst (pc := 389) (v := nI 0) dL_refuses_389 (by first | rfl | decide) ?_
  refine RA (pc := 390) (ar_takeBackX h h6) (by omega) (by omega) h.1 rfl dL_refuses_390 ?_
  refine G_bipush (pc := 393) (v := (-71)) dL_refuses_393 (by first | rfl | decide) ?_
  refine G_icmp_ne (pc := 395) (tgt := 524) dL_refuses_395 (by decide) (fun h => absurd h (by decide)) (fun _ => ?_)
  refine G_aload_n (pc := 398) dL_refuses_398 rfl ?_
  refine G_bipush (pc := 399) (v := nI 12) dL_refuses_399 (by first | rfl | decide) ?_
  refine G_iload (pc := 401) dL_refuses_401 rfl ?_
  refine G_iconst (pc := 403) (v := nI 0) dL_refuses_403 (by first | rfl | decide) ?_
  refine G_iconst (pc := 404) (v := nI 0) dL_refuses_404 (by first | rfl | decide) ?_
  refine RA (pc := 405) (ar_tipX h h6) (by omega) (by omega) h.1 rfl dL_refuses_405 ?_
  refine G_bipush (pc := 408) (v := (-71)) dL_refuses_408 (by first | rfl | decide) ?_
  refine G_icmp_ne (pc := 410) (tgt := 524) dL_refuses_410 (by decide) (fun h => absurd h (by decide)) (fun _ => ?_)
  refine G_aload_n (pc := 413) dL_refuses_413 rfl ?_
  refine G_bipush (pc := 414) (v := nI 28) dL_refuses_414 (by first | rfl | decide) ?_
  refine G_iload (pc := 416) dL_refuses_416 rfl ?_
  refine G_iconst (pc := 418) (v := nI 0) dL_refuses_418 (by first | rfl | decide) ?_
  refine G_iconst (pc := 419) (v := nI 0) dL_refuses_419 (by first | rfl | decide) ?_
  refine RA (pc := 420) (ar_cellX h hf) (by omega) (by omega) h.1 rfl dL_refuses_420 ?_
  refine G_bipush (pc := 423) (v := (-71)) dL_refuses_423 (by first | rfl | decide) ?_
  refine G_icmp_ne (pc := 425) (tgt := 524) dL_refuses_425 (by decide) (fun h => absurd h (by decide)) (fun _ => ?_)
  refine G_aload_n (pc := 428) dL_refuses_428 rfl ?_
  refine G_bipush (pc := 429) (v := nI 28) dL_refuses_429 (by first | rfl | decide) ?_
  refine G_iconst (pc := 431) (v := nI 0) dL_refuses_431 (by first | rfl | decide) ?_
  refine G_iload (pc := 432) dL_refuses_432 rfl ?_
  refine G_iconst (pc := 434) (v := nI 0) dL_refuses_434 (by first | rfl | decide) ?_
  refine RA (pc := 435) (hcel) (by omega) (by omega) h.1 rfl dL_refuses_435 ?_
  refine G_bipush (pc := 438) (v := (-71)) dL_refuses_438 (by first | rfl | decide) ?_
  refine G_icmp_ne (pc := 440) (tgt := 524) dL_refuses_440 (by decide) (fun h => absurd h (by decide)) (fun _ => ?_)
  refine G_aload_n (pc := 443) dL_refuses_443 rfl ?_
  refine G_bipush (pc := 444) (v := nI 29) dL_refuses_444 (by first | rfl | decide) ?_
  refine G_iload (pc := 446) dL_refuses_446 rfl ?_
  refine G_bipush (pc := 448) (v := nI 9) dL_refuses_448 (by first | rfl | decide) ?_
  refine G_iconst (pc := 450) (v := nI 0) dL_refuses_450 (by first | rfl | decide) ?_
  refine RA (pc := 451) (ar_contactsX h hf) (by omega) (by omega) h.1 rfl dL_refuses_451 ?_
  refine G_bipush (pc := 454) (v := (-71)) dL_refuses_454 (by first | rfl | decide) ?_
  refine G_icmp_ne (pc := 456) (tgt := 524) dL_refuses_456 (by decide) (fun h => absurd h (by decide)) (fun _ => ?_)
  refine G_aload_n (pc := 459) dL_refuses_459 rfl ?_
  refine G_bipush (pc := 460) (v := nI 30) dL_refuses_460 (by first | rfl | decide) ?_
  refine G_iload (pc := 462) dL_refuses_462 rfl ?_
  refine G_bipush (pc := 464) (v := nI 9) dL_refuses_464 (by first | rfl | decide) ?_
  refine G_iconst (pc := 466) (v := nI 0) dL_refuses_466 (by first | rfl | decide) ?_
  refine RA (pc := 467) (ar_contactsByPairsX h hf) (by omega) (by omega) h.1 rfl dL_refuses_467 ?_
  refine G_bipush (pc := 470) (v := (-71)) dL_refuses_470 (by first | rfl | decide) ?_
  refine G_icmp_ne (pc := 472) (tgt := 524) dL_refuses_472 (by decide) (fun h => absurd h (by decide)) (fun _ => ?_)
  refine G_aload_n (pc := 475) dL_refuses_475 rfl ?_
  refine G_bipush (pc := 476) (v := nI 31) dL_refuses_476 (by first | rfl | decide) ?_
  refine G_iload (pc := 478) dL_refuses_478 rfl ?_
  refine G_iconst (pc := 480) (v := nI 0) dL_refuses_480 (by first | rfl | decide) ?_
  refine G_iconst (pc := 481) (v := nI 0) dL_refuses_481 (by first | rfl | decide) ?_
  refine RA (pc := 482) (ar_wearX h h6) (by omega) (by omega) h.1 rfl dL_refuses_482 ?_
  refine G_bipush (pc := 485) (v := (-71)) dL_refuses_485 (by first | rfl | decide) ?_
  refine G_icmp_ne (pc := 487) (tgt := 524) dL_refuses_487 (by decide) (fun h => absurd h (by decide)) (fun _ => ?_)
  refine G_aload_n (pc := 490) dL_refuses_490 rfl ?_
  refine G_bipush (pc := 491) (v := nI 32) dL_refuses_491 (by first | rfl | decide) ?_
  refine G_iload (pc := 493) dL_refuses_493 rfl ?_
  refine G_iconst (pc := 495) (v := nI 0) dL_refuses_495 (by first | rfl | decide) ?_
  refine G_iconst (pc := 496) (v := nI 0) dL_refuses_496 (by first | rfl | decide) ?_
  refine RA (pc := 497) (ar_forceX h h8) (by omega) (by omega) h.1 rfl dL_refuses_497 ?_
  refine G_bipush (pc := 500) (v := (-71)) dL_refuses_500 (by first | rfl | decide) ?_
  refine G_icmp_ne (pc := 502) (tgt := 524) dL_refuses_502 (by decide) (fun h => absurd h (by decide)) (fun _ => ?_)
  refine G_aload_n (pc := 505) dL_refuses_505 rfl ?_
  refine G_bipush (pc := 506) (v := nI 32) dL_refuses_506 (by first | rfl | decide) ?_
  refine G_iconst (pc := 508) (v := nI 0) dL_refuses_508 (by first | rfl | decide) ?_
  refine G_iload (pc := 509) dL_refuses_509 rfl ?_
  refine G_iconst (pc := 511) (v := nI 0) dL_refuses_511 (by first | rfl | decide) ?_
  refine RA (pc := 512) (ar_forceY h (c := 0) (by decide) hp) (by omega) (by omega) h.1 rfl dL_refuses_512 ?_
  refine G_bipush (pc := 515) (v := (-72)) dL_refuses_515 (by first | rfl | decide) ?_
  refine G_icmp_ne (pc := 517) (tgt := 524) dL_refuses_517 (by decide) (fun h => absurd h (by decide)) (fun _ => ?_)
  refine G_iconst (pc := 520) (v := nI 1) dL_refuses_520 (by first | rfl | decide) ?_
  refine G_goto (pc := 521) (tgt := 525) dL_refuses_521 (by decide) ?_
  refine G_istore (pc := 525) dL_refuses_525 (by decide) ?_
  refine G_iconst (pc := 527) (v := nI 2) dL_refuses_527 (by first | rfl | decide) ?_
  refine G_istore (pc := 528) dL_refuses_528 (by decide) ?_
  refine G_weak (weak_take (j := 15) (r := 2)) ?_
  exact what_loop h h4 h6 h8 hf hp (by decide) 26 2 _ _ rfl (by decide) (by omega) (by omega) (fun c1 c2 b1 b2 => ref_tail h h4 h6 h8 hf hp (by decide) (by omega) (by omega) (fun c3 c4 b3 b4 => kk c3 c4 (by omega) (by omega)))
theorem ref_body_2 {Γ : GTy} {W : WTy} {n : Nat} {Z : HS} {F A : FT} {g : GN} (h : CI n Z F g A) {four six eight frame power none_ mi ow cl mo : Int32} (h4 : ¬ (nI 0 ≤ four ∧ four ≤ nI 3)) (h6 : ¬ (nI 0 ≤ six ∧ six ≤ nI 5)) (h8 : ¬ (nI 0 ≤ eight ∧ eight ≤ nI 7)) (hf : ¬ (nI 0 ≤ frame ∧ frame ≤ nI (g 16 0) - nI 1)) (hp : ¬ (nI 1 ≤ power ∧ power ≤ nI 40)) (h51 : ¬ (nI 0 ≤ none_ ∧ none_ ≤ nI 50)) (h201 : ¬ (nI 1 ≤ none_ ∧ none_ ≤ nI 200)) {kc ks : Nat} (hk1 : kc ≤ 3000) (hk2 : ks ≤ 25000) (kk : ∀ kc' ks' : Nat, kc' ≤ kc + 700 → ks' ≤ ks + 5600 → gR Γ W kc' ks' 25 [some (.ref 800000), some (.int (nI (g 16 0))), some (.int mi), some (.int ow), some (.int cl), some (.int mo), some (.int (nI 3)), none, none, none, none, none, none, none, none, none, none] Z) : gR Γ W kc ks 140 [some (.ref 800000), some (.int (nI (g 16 0))), some (.int mi), some (.int ow), some (.int cl), some (.int mo), some (.int (nI 2)), some (.int none_), some (.int four), some (.int six), some (.int eight), some (.int frame), some (.int power), none, none, none, none] Z := by
  have g20 := h.2.1.1.1.2.2
  have hres : Tw Γ M_L_act [.ref 800000, .int (nI 8), .int (nI 0), .int four, .int (nI 0)] Z (rt (some (.int (-71))) Z) noX := by
    rcases Nat.eq_zero_or_pos (g 16 0) with hg | hg
    · exact ar_resumeX h (by rw [hg]; decide)
    · exact ar_resumeY h (f := 0) hg h4
  have hcel : Tw Γ M_L_act [.ref 800000, .int (nI 28), .int (nI 0), .int eight, .int (nI 0)] Z (rt (some (.int (-71))) Z) noX := by
    rcases Nat.eq_zero_or_pos (g 16 0) with hg | hg
    · exact ar_cellX h (by rw [hg]; decide)
    · exact ar_cellY h (f := 0) hg h8
  show G Γ M_L_refuses (rm M_L_refuses) W (kc, ks) 140 [some (.ref 800000), some (.int (nI (g 16 0))), some (.int mi), some (.int ow), some (.int cl), some (.int mo), some (.int (nI 2)), some (.int none_), some (.int four), some (.int six), some (.int eight), some (.int frame), some (.int power), none, none, none, none] [] Z
  refine G_aload_n (pc := 140) dL_refuses_140 rfl ?_
  refine G_iconst (pc := 141) (v := nI 0) dL_refuses_141 (by first | rfl | decide) ?_
  refine G_iload (pc := 142) dL_refuses_142 rfl ?_
  refine G_iconst (pc := 144) (v := nI 1) dL_refuses_144 (by first | rfl | decide) ?_
  refine G_icmp_neN (pc := 145) (tgt := 153) (by omega) (by omega) dL_refuses_145 (by decide) (fun _ => ?_) (fun h => absurd h (by decide))
  refine G_iload (pc := 153) dL_refuses_153 rfl ?_
  refine G_iconst (pc := 155) (v := nI 0) dL_refuses_155 (by first | rfl | decide) ?_
  refine G_iconst (pc := 156) (v := nI 0) dL_refuses_156 (by first | rfl | decide) ?_
  refine RA (pc := 157) (ar_setPriceX h h51) (by omega) (by omega) h.1 rfl dL_refuses_157 ?_
  refine G_bipush (pc := 160) (v := (-72)) dL_refuses_160 (by first | rfl | decide) ?_
  refine G_icmp_ne (pc := 162) (tgt := 524) dL_refuses_162 (by decide) (fun h => absurd h (by decide)) (fun _ => ?_)
  refine G_aload_n (pc := 165) dL_refuses_165 rfl ?_
  refine G_iconst (pc := 166) (v := nI 1) dL_refuses_166 (by first | rfl | decide) ?_
  refine G_iload (pc := 167) dL_refuses_167 rfl ?_
  refine G_iconst (pc := 169) (v := nI 0) dL_refuses_169 (by first | rfl | decide) ?_
  refine G_iconst (pc := 170) (v := nI 0) dL_refuses_170 (by first | rfl | decide) ?_
  refine RA (pc := 171) (ar_rentX h h4) (by omega) (by omega) h.1 rfl dL_refuses_171 ?_
  refine G_bipush (pc := 174) (v := (-71)) dL_refuses_174 (by first | rfl | decide) ?_
  refine G_icmp_ne (pc := 176) (tgt := 524) dL_refuses_176 (by decide) (fun h => absurd h (by decide)) (fun _ => ?_)
  refine G_aload_n (pc := 179) dL_refuses_179 rfl ?_
  refine G_iconst (pc := 180) (v := nI 1) dL_refuses_180 (by first | rfl | decide) ?_
  refine G_iconst (pc := 181) (v := nI 0) dL_refuses_181 (by first | rfl | decide) ?_
  refine G_iload (pc := 182) dL_refuses_182 rfl ?_
  refine G_iconst (pc := 184) (v := nI 0) dL_refuses_184 (by first | rfl | decide) ?_
  refine RA (pc := 185) (ar_rentY h (t := 0) (by decide) h8) (by omega) (by omega) h.1 rfl dL_refuses_185 ?_
  refine G_bipush (pc := 188) (v := (-71)) dL_refuses_188 (by first | rfl | decide) ?_
  refine G_icmp_ne (pc := 190) (tgt := 524) dL_refuses_190 (by decide) (fun h => absurd h (by decide)) (fun _ => ?_)
  refine G_aload_n (pc := 193) dL_refuses_193 rfl ?_
  refine G_iconst (pc := 194) (v := nI 5) dL_refuses_194 (by first | rfl | decide) ?_
  refine G_iload (pc := 195) dL_refuses_195 rfl ?_
  refine G_if_neN (pc := 197) (tgt := 204) (by omega) dL_refuses_197 (by decide) (fun _ => ?_) (fun h => absurd h (by decide))
  refine G_iload (pc := 204) dL_refuses_204 rfl ?_
  refine G_iconst (pc := 206) (v := nI 1) dL_refuses_206 (by first | rfl | decide) ?_
  refine G_icmp_neN (pc := 207) (tgt := 216) (by omega) (by omega) dL_refuses_207 (by decide) (fun _ => ?_) (fun h => absurd h (by decide))
  refine G_iload (pc := 216) dL_refuses_216 rfl ?_
  refine G_iconst (pc := 218) (v := nI 0) dL_refuses_218 (by first | rfl | decide) ?_
  refine G_iconst (pc := 219) (v := nI 0) dL_refuses_219 (by first | rfl | decide) ?_
  refine RA (pc := 220) (ar_passX h h201) (by omega) (by omega) h.1 rfl dL_refuses_220 ?_
  refine G_bipush (pc := 223) (v := (-72)) dL_refuses_223 (by first | rfl | decide) ?_
  refine G_icmp_ne (pc := 225) (tgt := 524) dL_refuses_225 (by decide) (fun h => absurd h (by decide)) (fun _ => ?_)
  refine G_aload_n (pc := 228) dL_refuses_228 rfl ?_
  refine G_bipush (pc := 229) (v := nI 6) dL_refuses_229 (by first | rfl | decide) ?_
  refine G_iload (pc := 231) dL_refuses_231 rfl ?_
  refine G_iconst (pc := 233) (v := nI 0) dL_refuses_233 (by first | rfl | decide) ?_
  refine G_iconst (pc := 234) (v := nI 0) dL_refuses_234 (by first | rfl | decide) ?_
  refine RA (pc := 235) (ar_beginX_6 h h4) (by omega) (by omega) h.1 rfl dL_refuses_235 ?_
  refine G_bipush (pc := 238) (v := (-71)) dL_refuses_238 (by first | rfl | decide) ?_
  refine G_icmp_ne (pc := 240) (tgt := 524) dL_refuses_240 (by decide) (fun h => absurd h (by decide)) (fun _ => ?_)
  refine G_aload_n (pc := 243) dL_refuses_243 rfl ?_
  refine G_bipush (pc := 244) (v := nI 7) dL_refuses_244 (by first | rfl | decide) ?_
  refine G_iconst (pc := 246) (v := nI 0) dL_refuses_246 (by first | rfl | decide) ?_
  refine G_iload (pc := 247) dL_refuses_247 rfl ?_
  refine G_iload (pc := 249) dL_refuses_249 rfl ?_
  refine RA (pc := 251) (ar_beginY_7 h (t := 0) (by decide) h8) (by omega) (by omega) h.1 rfl dL_refuses_251 ?_
  refine G_bipush (pc := 254) (v := (-71)) dL_refuses_254 (by first | rfl | decide) ?_
  refine G_icmp_ne (pc := 256) (tgt := 524) dL_refuses_256 (by decide) (fun h => absurd h (by decide)) (fun _ => ?_)
  refine G_aload_n (pc := 259) dL_refuses_259 rfl ?_
  refine G_bipush (pc := 260) (v := nI 6) dL_refuses_260 (by first | rfl | decide) ?_
  refine G_iconst (pc := 262) (v := nI 0) dL_refuses_262 (by first | rfl | decide) ?_
  refine G_iconst (pc := 263) (v := nI 1) dL_refuses_263 (by first | rfl | decide) ?_
  refine G_iload (pc := 264) dL_refuses_264 rfl ?_
  refine RA (pc := 266) (ar_beginZ_6 h (t := 0) (a := 1) (by decide) (by decide) h8) (by omega) (by omega) h.1 rfl dL_refuses_266 ?_
  refine G_bipush (pc := 269) (v := (-71)) dL_refuses_269 (by first | rfl | decide) ?_
  refine G_icmp_ne (pc := 271) (tgt := 524) dL_refuses_271 (by decide) (fun h => absurd h (by decide)) (fun _ => ?_)
  refine G_aload_n (pc := 274) dL_refuses_274 rfl ?_
  refine G_bipush (pc := 275) (v := nI 6) dL_refuses_275 (by first | rfl | decide) ?_
  refine G_iload (pc := 277) dL_refuses_277 rfl ?_
  refine G_iload (pc := 279) dL_refuses_279 rfl ?_
  refine G_iload (pc := 281) dL_refuses_281 rfl ?_
  refine RA (pc := 283) (ar_beginU_6 h (t := 2) (a := 2) (by decide) (by decide)) (by omega) (by omega) h.1 rfl dL_refuses_283 ?_
  refine G_bipush (pc := 286) (v := (-72)) dL_refuses_286 (by first | rfl | decide) ?_
  refine G_icmp_ne (pc := 288) (tgt := 524) dL_refuses_288 (by decide) (fun h => absurd h (by decide)) (fun _ => ?_)
  refine G_aload_n (pc := 291) dL_refuses_291 rfl ?_
  refine G_bipush (pc := 292) (v := nI 7) dL_refuses_292 (by first | rfl | decide) ?_
  refine G_iconst (pc := 294) (v := nI 0) dL_refuses_294 (by first | rfl | decide) ?_
  refine G_iload (pc := 295) dL_refuses_295 rfl ?_
  refine G_iload (pc := 297) dL_refuses_297 rfl ?_
  refine RA (pc := 299) (ar_beginU_7 h (t := 0) (a := 2) (by decide) (by decide)) (by omega) (by omega) h.1 rfl dL_refuses_299 ?_
  refine G_bipush (pc := 302) (v := (-72)) dL_refuses_302 (by first | rfl | decide) ?_
  refine G_icmp_ne (pc := 304) (tgt := 524) dL_refuses_304 (by decide) (fun h => absurd h (by decide)) (fun _ => ?_)
  refine G_aload_n (pc := 307) dL_refuses_307 rfl ?_
  refine G_bipush (pc := 308) (v := nI 8) dL_refuses_308 (by first | rfl | decide) ?_
  refine G_iload (pc := 310) dL_refuses_310 rfl ?_
  refine G_iconst (pc := 312) (v := nI 0) dL_refuses_312 (by first | rfl | decide) ?_
  refine G_iconst (pc := 313) (v := nI 0) dL_refuses_313 (by first | rfl | decide) ?_
  refine RA (pc := 314) (ar_resumeX h hf) (by omega) (by omega) h.1 rfl dL_refuses_314 ?_
  refine G_bipush (pc := 317) (v := (-71)) dL_refuses_317 (by first | rfl | decide) ?_
  refine G_icmp_ne (pc := 319) (tgt := 524) dL_refuses_319 (by decide) (fun h => absurd h (by decide)) (fun _ => ?_)
  refine G_aload_n (pc := 322) dL_refuses_322 rfl ?_
  refine G_bipush (pc := 323) (v := nI 8) dL_refuses_323 (by first | rfl | decide) ?_
  refine G_iconst (pc := 325) (v := nI 0) dL_refuses_325 (by first | rfl | decide) ?_
  refine G_iload (pc := 326) dL_refuses_326 rfl ?_
  refine G_iconst (pc := 328) (v := nI 0) dL_refuses_328 (by first | rfl | decide) ?_
  refine RA (pc := 329) (hres) (by omega) (by omega) h.1 rfl dL_refuses_329 ?_
  refine G_bipush (pc := 332) (v := (-71)) dL_refuses_332 (by first | rfl | decide) ?_
  refine G_icmp_ne (pc := 334) (tgt := 524) dL_refuses_334 (by decide) (fun h => absurd h (by decide)) (fun _ => ?_)
  refine G_aload_n (pc := 337) dL_refuses_337 rfl ?_
  refine G_bipush (pc := 338) (v := nI 9) dL_refuses_338 (by first | rfl | decide) ?_
  refine G_iload (pc := 340) dL_refuses_340 rfl ?_
  refine G_bipush (pc := 342) (v := nI 9) dL_refuses_342 (by first | rfl | decide) ?_
  refine G_iconst (pc := 344) (v := nI 0) dL_refuses_344 (by first | rfl | decide) ?_
  refine RA (pc := 345) (ar_shootX h hf) (by omega) (by omega) h.1 rfl dL_refuses_345 ?_
  refine G_bipush (pc := 348) (v := (-71)) dL_refuses_348 (by first | rfl | decide) ?_
  refine G_icmp_ne (pc := 350) (tgt := 524) dL_refuses_350 (by decide) (fun h => absurd h (by decide)) (fun _ => ?_)
  refine G_aload_n (pc := 353) dL_refuses_353 rfl ?_
  refine G_bipush (pc := 354) (v := nI 10) dL_refuses_354 (by first | rfl | decide) ?_
  refine G_iload (pc := 356) dL_refuses_356 rfl ?_
  refine G_iconst (pc := 358) (v := nI 0) dL_refuses_358 (by first | rfl | decide) ?_
  refine G_iconst (pc := 359) (v := nI 0) dL_refuses_359 (by first | rfl | decide) ?_
  refine RA (pc := 360) (ar_lendX h h6) (by omega) (by omega) h.1 rfl dL_refuses_360 ?_
  refine G_bipush (pc := 363) (v := (-71)) dL_refuses_363 (by first | rfl | decide) ?_
  refine G_icmp_ne (pc := 365) (tgt := 524) dL_refuses_365 (by decide) (fun h => absurd h (by decide)) (fun _ => ?_)
  refine G_aload_n (pc := 368) dL_refuses_368 rfl ?_
  refine G_bipush (pc := 369) (v := nI 10) dL_refuses_369 (by first | rfl | decide) ?_
  refine G_iconst (pc := 371) (v := nI 0) dL_refuses_371 (by first | rfl | decide) ?_
  refine G_iload (pc := 372) dL_refuses_372 rfl ?_
  refine G_iconst (pc := 374) (v := nI 0) dL_refuses_374 (by first | rfl | decide) ?_
  refine RA (pc := 375) (ar_lendY h (u := 0) (by decide) h8) (by omega) (by omega) h.1 rfl dL_refuses_375 ?_
  refine G_bipush (pc := 378) (v := (-71)) dL_refuses_378 (by first | rfl | decide) ?_
  refine G_icmp_ne (pc := 380) (tgt := 524) dL_refuses_380 (by decide) (fun h => absurd h (by decide)) (fun _ => ?_)
  refine G_aload_n (pc := 383) dL_refuses_383 rfl ?_
  refine G_bipush (pc := 384) (v := nI 11) dL_refuses_384 (by first | rfl | decide) ?_
  refine G_iload (pc := 386) dL_refuses_386 rfl ?_
  refine G_iconst (pc := 388) (v := nI 0) dL_refuses_388 (by first | rfl | decide) ?_
  refine G_iconst (pc := 389) (v := nI 0) dL_refuses_389 (by first | rfl | decide) ?_
  refine RA (pc := 390) (ar_takeBackX h h6) (by omega) (by omega) h.1 rfl dL_refuses_390 ?_
  refine G_bipush (pc := 393) (v := (-71)) dL_refuses_393 (by first | rfl | decide) ?_
  refine G_icmp_ne (pc := 395) (tgt := 524) dL_refuses_395 (by decide) (fun h => absurd h (by decide)) (fun _ => ?_)
  refine G_aload_n (pc := 398) dL_refuses_398 rfl ?_
  refine G_bipush (pc := 399) (v := nI 12) dL_refuses_399 (by first | rfl | decide) ?_
  refine G_iload (pc := 401) dL_refuses_401 rfl ?_
  refine G_iconst (pc := 403) (v := nI 0) dL_refuses_403 (by first | rfl | decide) ?_
  refine G_iconst (pc := 404) (v := nI 0) dL_refuses_404 (by first | rfl | decide) ?_
  refine RA (pc := 405) (ar_tipX h h6) (by omega) (by omega) h.1 rfl dL_refuses_405 ?_
  refine G_bipush (pc := 408) (v := (-71)) dL_refuses_408 (by first | rfl | decide) ?_
  refine G_icmp_ne (pc := 410) (tgt := 524) dL_refuses_410 (by decide) (fun h => absurd h (by decide)) (fun _ => ?_)
  refine G_aload_n (pc := 413) dL_refuses_413 rfl ?_
  refine G_bipush (pc := 414) (v := nI 28) dL_refuses_414 (by first | rfl | decide) ?_
  refine G_iload (pc := 416) dL_refuses_416 rfl ?_
  refine G_iconst (pc := 418) (v := nI 0) dL_refuses_418 (by first | rfl | decide) ?_
  refine G_iconst (pc := 419) (v := nI 0) dL_refuses_419 (by first | rfl | decide) ?_
  refine RA (pc := 420) (ar_cellX h hf) (by omega) (by omega) h.1 rfl dL_refuses_420 ?_
  refine G_bipush (pc := 423) (v := (-71)) dL_refuses_423 (by first | rfl | decide) ?_
  refine G_icmp_ne (pc := 425) (tgt := 524) dL_refuses_425 (by decide) (fun h => absurd h (by decide)) (fun _ => ?_)
  refine G_aload_n (pc := 428) dL_refuses_428 rfl ?_
  refine G_bipush (pc := 429) (v := nI 28) dL_refuses_429 (by first | rfl | decide) ?_
  refine G_iconst (pc := 431) (v := nI 0) dL_refuses_431 (by first | rfl | decide) ?_
  refine G_iload (pc := 432) dL_refuses_432 rfl ?_
  refine G_iconst (pc := 434) (v := nI 0) dL_refuses_434 (by first | rfl | decide) ?_
  refine RA (pc := 435) (hcel) (by omega) (by omega) h.1 rfl dL_refuses_435 ?_
  refine G_bipush (pc := 438) (v := (-71)) dL_refuses_438 (by first | rfl | decide) ?_
  refine G_icmp_ne (pc := 440) (tgt := 524) dL_refuses_440 (by decide) (fun h => absurd h (by decide)) (fun _ => ?_)
  refine G_aload_n (pc := 443) dL_refuses_443 rfl ?_
  refine G_bipush (pc := 444) (v := nI 29) dL_refuses_444 (by first | rfl | decide) ?_
  refine G_iload (pc := 446) dL_refuses_446 rfl ?_
  refine G_bipush (pc := 448) (v := nI 9) dL_refuses_448 (by first | rfl | decide) ?_
  refine G_iconst (pc := 450) (v := nI 0) dL_refuses_450 (by first | rfl | decide) ?_
  refine RA (pc := 451) (ar_contactsX h hf) (by omega) (by omega) h.1 rfl dL_refuses_451 ?_
  refine G_bipush (pc := 454) (v := (-71)) dL_refuses_454 (by first | rfl | decide) ?_
  refine G_icmp_ne (pc := 456) (tgt := 524) dL_refuses_456 (by decide) (fun h => absurd h (by decide)) (fun _ => ?_)
  refine G_aload_n (pc := 459) dL_refuses_459 rfl ?_
  refine G_bipush (pc := 460) (v := nI 30) dL_refuses_460 (by first | rfl | decide) ?_
  refine G_iload (pc := 462) dL_refuses_462 rfl ?_
  refine G_bipush (pc := 464) (v := nI 9) dL_refuses_464 (by first | rfl | decide) ?_
  refine G_iconst (pc := 466) (v := nI 0) dL_refuses_466 (by first | rfl | decide) ?_
  refine RA (pc := 467) (ar_contactsByPairsX h hf) (by omega) (by omega) h.1 rfl dL_refuses_467 ?_
  refine G_bipush (pc := 470) (v := (-71)) dL_refuses_470 (by first | rfl | decide) ?_
  refine G_icmp_ne (pc := 472) (tgt := 524) dL_refuses_472 (by decide) (fun h => absurd h (by decide)) (fun _ => ?_)
  refine G_aload_n (pc := 475) dL_refuses_475 rfl ?_
  refine G_bipush (pc := 476) (v := nI 31) dL_refuses_476 (by first | rfl | decide) ?_
  refine G_iload (pc := 478) dL_refuses_478 rfl ?_
  refine G_iconst (pc := 480) (v := nI 0) dL_refuses_480 (by first | rfl | decide) ?_
  refine G_iconst (pc := 481) (v := nI 0) dL_refuses_481 (by first | rfl | decide) ?_
  refine RA (pc := 482) (ar_wearX h h6) (by omega) (by omega) h.1 rfl dL_refuses_482 ?_
  refine G_bipush (pc := 485) (v := (-71)) dL_refuses_485 (by first | rfl | decide) ?_
  refine G_icmp_ne (pc := 487) (tgt := 524) dL_refuses_487 (by decide) (fun h => absurd h (by decide)) (fun _ => ?_)
  refine G_aload_n (pc := 490) dL_refuses_490 rfl ?_
  refine G_bipush (pc := 491) (v := nI 32) dL_refuses_491 (by first | rfl | decide) ?_
  refine G_iload (pc := 493) dL_refuses_493 rfl ?_
  refine G_iconst (pc := 495) (v := nI 0) dL_refuses_495 (by first | rfl | decide) ?_
  refine G_iconst (pc := 496) (v := nI 0) dL_refuses_496 (by first | rfl | decide) ?_
  refine RA (pc := 497) (ar_forceX h h8) (by omega) (by omega) h.1 rfl dL_refuses_497 ?_
  refine G_bipush (pc := 500) (v := (-71)) dL_refuses_500 (by first | rfl | decide) ?_
  refine G_icmp_ne (pc := 502) (tgt := 524) dL_refuses_502 (by decide) (fun h => absurd h (by decide)) (fun _ => ?_)
  refine G_aload_n (pc := 505) dL_refuses_505 rfl ?_
  refine G_bipush (pc := 506) (v := nI 32) dL_refuses_506 (by first | rfl | decide) ?_
  refine G_iconst (pc := 508) (v := nI 0) dL_refuses_508 (by first | rfl | decide) ?_
  refine G_iload (pc := 509) dL_refuses_509 rfl ?_
  refine G_iconst (pc := 511) (v := nI 0) dL_refuses_511 (by first | rfl | decide) ?_
  refine RA (pc := 512) (ar_forceY h (c := 0) (by decide) hp) (by omega) (by omega) h.1 rfl dL_refuses_512 ?_
  refine G_bipush (pc := 515) (v := (-72)) dL_refuses_515 (by first | rfl | decide) ?_
  refine G_icmp_ne (pc := 517) (tgt := 524) dL_refuses_517 (by decide) (fun h => absurd h (by decide)) (fun _ => ?_)
  refine G_iconst (pc := 520) (v := nI 1) dL_refuses_520 (by first | rfl | decide) ?_
  refine G_goto (pc := 521) (tgt := 525) dL_refuses_521 (by decide) ?_
  refine G_istore (pc := 525) dL_refuses_525 (by decide) ?_
  refine G_iconst (pc := 527) (v := nI 2) dL_refuses_527 (by first | rfl | decide) ?_
  refine G_istore (pc := 528) dL_refuses_528 (by decide) ?_
  refine G_weak (weak_take (j := 15) (r := 2)) ?_
  exact what_loop h h4 h6 h8 hf hp (by decide) 26 2 _ _ rfl (by decide) (by omega) (by omega) (fun c1 c2 b1 b2 => ref_tail h h4 h6 h8 hf hp (by decide) (by omega) (by omega) (fun c3 c4 b3 b4 => kk c3 c4 (by omega) (by omega)))
theorem ref_body_3 {Γ : GTy} {W : WTy} {n : Nat} {Z : HS} {F A : FT} {g : GN} (h : CI n Z F g A) {four six eight frame power none_ mi ow cl mo : Int32} (h4 : ¬ (nI 0 ≤ four ∧ four ≤ nI 3)) (h6 : ¬ (nI 0 ≤ six ∧ six ≤ nI 5)) (h8 : ¬ (nI 0 ≤ eight ∧ eight ≤ nI 7)) (hf : ¬ (nI 0 ≤ frame ∧ frame ≤ nI (g 16 0) - nI 1)) (hp : ¬ (nI 1 ≤ power ∧ power ≤ nI 40)) (h51 : ¬ (nI 0 ≤ none_ ∧ none_ ≤ nI 50)) (h201 : ¬ (nI 1 ≤ none_ ∧ none_ ≤ nI 200)) {kc ks : Nat} (hk1 : kc ≤ 3000) (hk2 : ks ≤ 25000) (kk : ∀ kc' ks' : Nat, kc' ≤ kc + 700 → ks' ≤ ks + 5600 → gR Γ W kc' ks' 25 [some (.ref 800000), some (.int (nI (g 16 0))), some (.int mi), some (.int ow), some (.int cl), some (.int mo), some (.int (nI 4)), none, none, none, none, none, none, none, none, none, none] Z) : gR Γ W kc ks 140 [some (.ref 800000), some (.int (nI (g 16 0))), some (.int mi), some (.int ow), some (.int cl), some (.int mo), some (.int (nI 3)), some (.int none_), some (.int four), some (.int six), some (.int eight), some (.int frame), some (.int power), none, none, none, none] Z := by
  have g20 := h.2.1.1.1.2.2
  have hres : Tw Γ M_L_act [.ref 800000, .int (nI 8), .int (nI 0), .int four, .int (nI 0)] Z (rt (some (.int (-71))) Z) noX := by
    rcases Nat.eq_zero_or_pos (g 16 0) with hg | hg
    · exact ar_resumeX h (by rw [hg]; decide)
    · exact ar_resumeY h (f := 0) hg h4
  have hcel : Tw Γ M_L_act [.ref 800000, .int (nI 28), .int (nI 0), .int eight, .int (nI 0)] Z (rt (some (.int (-71))) Z) noX := by
    rcases Nat.eq_zero_or_pos (g 16 0) with hg | hg
    · exact ar_cellX h (by rw [hg]; decide)
    · exact ar_cellY h (f := 0) hg h8
  show G Γ M_L_refuses (rm M_L_refuses) W (kc, ks) 140 [some (.ref 800000), some (.int (nI (g 16 0))), some (.int mi), some (.int ow), some (.int cl), some (.int mo), some (.int (nI 3)), some (.int none_), some (.int four), some (.int six), some (.int eight), some (.int frame), some (.int power), none, none, none, none] [] Z
  refine G_aload_n (pc := 140) dL_refuses_140 rfl ?_
  refine G_iconst (pc := 141) (v := nI 0) dL_refuses_141 (by first | rfl | decide) ?_
  refine G_iload (pc := 142) dL_refuses_142 rfl ?_
  refine G_iconst (pc := 144) (v := nI 1) dL_refuses_144 (by first | rfl | decide) ?_
  refine G_icmp_neN (pc := 145) (tgt := 153) (by omega) (by omega) dL_refuses_145 (by decide) (fun _ => ?_) (fun h => absurd h (by decide))
  refine G_iload (pc := 153) dL_refuses_153 rfl ?_
  refine G_iconst (pc := 155) (v := nI 0) dL_refuses_155 (by first | rfl | decide) ?_
  refine G_iconst (pc := 156) (v := nI 0) dL_refuses_156 (by first | rfl | decide) ?_
  refine RA (pc := 157) (ar_setPriceX h h51) (by omega) (by omega) h.1 rfl dL_refuses_157 ?_
  refine G_bipush (pc := 160) (v := (-72)) dL_refuses_160 (by first | rfl | decide) ?_
  refine G_icmp_ne (pc := 162) (tgt := 524) dL_refuses_162 (by decide) (fun h => absurd h (by decide)) (fun _ => ?_)
  refine G_aload_n (pc := 165) dL_refuses_165 rfl ?_
  refine G_iconst (pc := 166) (v := nI 1) dL_refuses_166 (by first | rfl | decide) ?_
  refine G_iload (pc := 167) dL_refuses_167 rfl ?_
  refine G_iconst (pc := 169) (v := nI 0) dL_refuses_169 (by first | rfl | decide) ?_
  refine G_iconst (pc := 170) (v := nI 0) dL_refuses_170 (by first | rfl | decide) ?_
  refine RA (pc := 171) (ar_rentX h h4) (by omega) (by omega) h.1 rfl dL_refuses_171 ?_
  refine G_bipush (pc := 174) (v := (-71)) dL_refuses_174 (by first | rfl | decide) ?_
  refine G_icmp_ne (pc := 176) (tgt := 524) dL_refuses_176 (by decide) (fun h => absurd h (by decide)) (fun _ => ?_)
  refine G_aload_n (pc := 179) dL_refuses_179 rfl ?_
  refine G_iconst (pc := 180) (v := nI 1) dL_refuses_180 (by first | rfl | decide) ?_
  refine G_iconst (pc := 181) (v := nI 0) dL_refuses_181 (by first | rfl | decide) ?_
  refine G_iload (pc := 182) dL_refuses_182 rfl ?_
  refine G_iconst (pc := 184) (v := nI 0) dL_refuses_184 (by first | rfl | decide) ?_
  refine RA (pc := 185) (ar_rentY h (t := 0) (by decide) h8) (by omega) (by omega) h.1 rfl dL_refuses_185 ?_
  refine G_bipush (pc := 188) (v := (-71)) dL_refuses_188 (by first | rfl | decide) ?_
  refine G_icmp_ne (pc := 190) (tgt := 524) dL_refuses_190 (by decide) (fun h => absurd h (by decide)) (fun _ => ?_)
  refine G_aload_n (pc := 193) dL_refuses_193 rfl ?_
  refine G_iconst (pc := 194) (v := nI 5) dL_refuses_194 (by first | rfl | decide) ?_
  refine G_iload (pc := 195) dL_refuses_195 rfl ?_
  refine G_if_neN (pc := 197) (tgt := 204) (by omega) dL_refuses_197 (by decide) (fun _ => ?_) (fun h => absurd h (by decide))
  refine G_iload (pc := 204) dL_refuses_204 rfl ?_
  refine G_iconst (pc := 206) (v := nI 1) dL_refuses_206 (by first | rfl | decide) ?_
  refine G_icmp_neN (pc := 207) (tgt := 216) (by omega) (by omega) dL_refuses_207 (by decide) (fun _ => ?_) (fun h => absurd h (by decide))
  refine G_iload (pc := 216) dL_refuses_216 rfl ?_
  refine G_iconst (pc := 218) (v := nI 0) dL_refuses_218 (by first | rfl | decide) ?_
  refine G_iconst (pc := 219) (v := nI 0) dL_refuses_219 (by first | rfl | decide) ?_
  refine RA (pc := 220) (ar_passX h h201) (by omega) (by omega) h.1 rfl dL_refuses_220 ?_
  refine G_bipush (pc := 223) (v := (-72)) dL_refuses_223 (by first | rfl | decide) ?_
  refine G_icmp_ne (pc := 225) (tgt := 524) dL_refuses_225 (by decide) (fun h => absurd h (by decide)) (fun _ => ?_)
  refine G_aload_n (pc := 228) dL_refuses_228 rfl ?_
  refine G_bipush (pc := 229) (v := nI 6) dL_refuses_229 (by first | rfl | decide) ?_
  refine G_iload (pc := 231) dL_refuses_231 rfl ?_
  refine G_iconst (pc := 233) (v := nI 0) dL_refuses_233 (by first | rfl | decide) ?_
  refine G_iconst (pc := 234) (v := nI 0) dL_refuses_234 (by first | rfl | decide) ?_
  refine RA (pc := 235) (ar_beginX_6 h h4) (by omega) (by omega) h.1 rfl dL_refuses_235 ?_
  refine G_bipush (pc := 238) (v := (-71)) dL_refuses_238 (by first | rfl | decide) ?_
  refine G_icmp_ne (pc := 240) (tgt := 524) dL_refuses_240 (by decide) (fun h => absurd h (by decide)) (fun _ => ?_)
  refine G_aload_n (pc := 243) dL_refuses_243 rfl ?_
  refine G_bipush (pc := 244) (v := nI 7) dL_refuses_244 (by first | rfl | decide) ?_
  refine G_iconst (pc := 246) (v := nI 0) dL_refuses_246 (by first | rfl | decide) ?_
  refine G_iload (pc := 247) dL_refuses_247 rfl ?_
  refine G_iload (pc := 249) dL_refuses_249 rfl ?_
  refine RA (pc := 251) (ar_beginY_7 h (t := 0) (by decide) h8) (by omega) (by omega) h.1 rfl dL_refuses_251 ?_
  refine G_bipush (pc := 254) (v := (-71)) dL_refuses_254 (by first | rfl | decide) ?_
  refine G_icmp_ne (pc := 256) (tgt := 524) dL_refuses_256 (by decide) (fun h => absurd h (by decide)) (fun _ => ?_)
  refine G_aload_n (pc := 259) dL_refuses_259 rfl ?_
  refine G_bipush (pc := 260) (v := nI 6) dL_refuses_260 (by first | rfl | decide) ?_
  refine G_iconst (pc := 262) (v := nI 0) dL_refuses_262 (by first | rfl | decide) ?_
  refine G_iconst (pc := 263) (v := nI 1) dL_refuses_263 (by first | rfl | decide) ?_
  refine G_iload (pc := 264) dL_refuses_264 rfl ?_
  refine RA (pc := 266) (ar_beginZ_6 h (t := 0) (a := 1) (by decide) (by decide) h8) (by omega) (by omega) h.1 rfl dL_refuses_266 ?_
  refine G_bipush (pc := 269) (v := (-71)) dL_refuses_269 (by first | rfl | decide) ?_
  refine G_icmp_ne (pc := 271) (tgt := 524) dL_refuses_271 (by decide) (fun h => absurd h (by decide)) (fun _ => ?_)
  refine G_aload_n (pc := 274) dL_refuses_274 rfl ?_
  refine G_bipush (pc := 275) (v := nI 6) dL_refuses_275 (by first | rfl | decide) ?_
  refine G_iload (pc := 277) dL_refuses_277 rfl ?_
  refine G_iload (pc := 279) dL_refuses_279 rfl ?_
  refine G_iload (pc := 281) dL_refuses_281 rfl ?_
  refine RA (pc := 283) (ar_beginU_6 h (t := 3) (a := 3) (by decide) (by decide)) (by omega) (by omega) h.1 rfl dL_refuses_283 ?_
  refine G_bipush (pc := 286) (v := (-72)) dL_refuses_286 (by first | rfl | decide) ?_
  refine G_icmp_ne (pc := 288) (tgt := 524) dL_refuses_288 (by decide) (fun h => absurd h (by decide)) (fun _ => ?_)
  refine G_aload_n (pc := 291) dL_refuses_291 rfl ?_
  refine G_bipush (pc := 292) (v := nI 7) dL_refuses_292 (by first | rfl | decide) ?_
  refine G_iconst (pc := 294) (v := nI 0) dL_refuses_294 (by first | rfl | decide) ?_
  refine G_iload (pc := 295) dL_refuses_295 rfl ?_
  refine G_iload (pc := 297) dL_refuses_297 rfl ?_
  refine RA (pc := 299) (ar_beginU_7 h (t := 0) (a := 3) (by decide) (by decide)) (by omega) (by omega) h.1 rfl dL_refuses_299 ?_
  refine G_bipush (pc := 302) (v := (-72)) dL_refuses_302 (by first | rfl | decide) ?_
  refine G_icmp_ne (pc := 304) (tgt := 524) dL_refuses_304 (by decide) (fun h => absurd h (by decide)) (fun _ => ?_)
  refine G_aload_n (pc := 307) dL_refuses_307 rfl ?_
  refine G_bipush (pc := 308) (v := nI 8) dL_refuses_308 (by first | rfl | decide) ?_
  refine G_iload (pc := 310) dL_refuses_310 rfl ?_
  refine G_iconst (pc := 312) (v := nI 0) dL_refuses_312 (by first | rfl | decide) ?_
  refine G_iconst (pc := 313) (v := nI 0) dL_refuses_313 (by first | rfl | decide) ?_
  refine RA (pc := 314) (ar_resumeX h hf) (by omega) (by omega) h.1 rfl dL_refuses_314 ?_
  refine G_bipush (pc := 317) (v := (-71)) dL_refuses_317 (by first | rfl | decide) ?_
  refine G_icmp_ne (pc := 319) (tgt := 524) dL_refuses_319 (by decide) (fun h => absurd h (by decide)) (fun _ => ?_)
  refine G_aload_n (pc := 322) dL_refuses_322 rfl ?_
  refine G_bipush (pc := 323) (v := nI 8) dL_refuses_323 (by first | rfl | decide) ?_
  refine G_iconst (pc := 325) (v := nI 0) dL_refuses_325 (by first | rfl | decide) ?_
  refine G_iload (pc := 326) dL_refuses_326 rfl ?_
  refine G_iconst (pc := 328) (v := nI 0) dL_refuses_328 (by first | rfl | decide) ?_
  refine RA (pc := 329) (hres) (by omega) (by omega) h.1 rfl dL_refuses_329 ?_
  refine G_bipush (pc := 332) (v := (-71)) dL_refuses_332 (by first | rfl | decide) ?_
  refine G_icmp_ne (pc := 334) (tgt := 524) dL_refuses_334 (by decide) (fun h => absurd h (by decide)) (fun _ => ?_)
  refine G_aload_n (pc := 337) dL_refuses_337 rfl ?_
  refine G_bipush (pc := 338) (v := nI 9) dL_refuses_338 (by first | rfl | decide) ?_
  refine G_iload (pc := 340) dL_refuses_340 rfl ?_
  refine G_bipush (pc := 342) (v := nI 9) dL_refuses_342 (by first | rfl | decide) ?_
  refine G_iconst (pc := 344) (v := nI 0) dL_refuses_344 (by first | rfl | decide) ?_
  refine RA (pc := 345) (ar_shootX h hf) (by omega) (by omega) h.1 rfl dL_refuses_345 ?_
  refine G_bipush (pc := 348) (v := (-71)) dL_refuses_348 (by first | rfl | decide) ?_
  refine G_icmp_ne (pc := 350) (tgt := 524) dL_refuses_350 (by decide) (fun h => absurd h (by decide)) (fun _ => ?_)
  refine G_aload_n (pc := 353) dL_refuses_353 rfl ?_
  refine G_bipush (pc := 354) (v := nI 10) dL_refuses_354 (by first | rfl | decide) ?_
  refine G_iload (pc := 356) dL_refuses_356 rfl ?_
  refine G_iconst (pc := 358) (v := nI 0) dL_refuses_358 (by first | rfl | decide) ?_
  refine G_iconst (pc := 359) (v := nI 0) dL_refuses_359 (by first | rfl | decide) ?_
  refine RA (pc := 360) (ar_lendX h h6) (by omega) (by omega) h.1 rfl dL_refuses_360 ?_
  refine G_bipush (pc := 363) (v := (-71)) dL_refuses_363 (by first | rfl | decide) ?_
  refine G_icmp_ne (pc := 365) (tgt := 524) dL_refuses_365 (by decide) (fun h => absurd h (by decide)) (fun _ => ?_)
  refine G_aload_n (pc := 368) dL_refuses_368 rfl ?_
  refine G_bipush (pc := 369) (v := nI 10) dL_refuses_369 (by first | rfl | decide) ?_
  refine G_iconst (pc := 371) (v := nI 0) dL_refuses_371 (by first | rfl | decide) ?_
  refine G_iload (pc := 372) dL_refuses_372 rfl ?_
  refine G_iconst (pc := 374) (v := nI 0) dL_refuses_374 (by first | rfl | decide) ?_
  refine RA (pc := 375) (ar_lendY h (u := 0) (by decide) h8) (by omega) (by omega) h.1 rfl dL_refuses_375 ?_
  refine G_bipush (pc := 378) (v := (-71)) dL_refuses_378 (by first | rfl | decide) ?_
  refine G_icmp_ne (pc := 380) (tgt := 524) dL_refuses_380 (by decide) (fun h => absurd h (by decide)) (fun _ => ?_)
  refine G_aload_n (pc := 383) dL_refuses_383 rfl ?_
  refine G_bipush (pc := 384) (v := nI 11) dL_refuses_384 (by first | rfl | decide) ?_
  refine G_iload (pc := 386) dL_refuses_386 rfl ?_
  refine G_iconst (pc := 388) (v := nI 0) dL_refuses_388 (by first | rfl | decide) ?_
  refine G_iconst (pc := 389) (v := nI 0) dL_refuses_389 (by first | rfl | decide) ?_
  refine RA (pc := 390) (ar_takeBackX h h6) (by omega) (by omega) h.1 rfl dL_refuses_390 ?_
  refine G_bipush (pc := 393) (v := (-71)) dL_refuses_393 (by first | rfl | decide) ?_
  refine G_icmp_ne (pc := 395) (tgt := 524) dL_refuses_395 (by decide) (fun h => absurd h (by decide)) (fun _ => ?_)
  refine G_aload_n (pc := 398) dL_refuses_398 rfl ?_
  refine G_bipush (pc := 399) (v := nI 12) dL_refuses_399 (by first | rfl | decide) ?_
  refine G_iload (pc := 401) dL_refuses_401 rfl ?_
  refine G_iconst (pc := 403) (v := nI 0) dL_refuses_403 (by first | rfl | decide) ?_
  refine G_iconst (pc := 404) (v := nI 0) dL_refuses_404 (by first | rfl | decide) ?_
  refine RA (pc := 405) (ar_tipX h h6) (by omega) (by omega) h.1 rfl dL_refuses_405 ?_
  refine G_bipush (pc := 408) (v := (-71)) dL_refuses_408 (by first | rfl | decide) ?_
  refine G_icmp_ne (pc := 410) (tgt := 524) dL_refuses_410 (by decide) (fun h => absurd h (by decide)) (fun _ => ?_)
  refine G_aload_n (pc := 413) dL_refuses_413 rfl ?_
  refine G_bipush (pc := 414) (v := nI 28) dL_refuses_414 (by first | rfl | decide) ?_
  refine G_iload (pc := 416) dL_refuses_416 rfl ?_
  refine G_iconst (pc := 418) (v := nI 0) dL_refuses_418 (by first | rfl | decide) ?_
  refine G_iconst (pc := 419) (v := nI 0) dL_refuses_419 (by first | rfl | decide) ?_
  refine RA (pc := 420) (ar_cellX h hf) (by omega) (by omega) h.1 rfl dL_refuses_420 ?_
  refine G_bipush (pc := 423) (v := (-71)) dL_refuses_423 (by first | rfl | decide) ?_
  refine G_icmp_ne (pc := 425) (tgt := 524) dL_refuses_425 (by decide) (fun h => absurd h (by decide)) (fun _ => ?_)
  refine G_aload_n (pc := 428) dL_refuses_428 rfl ?_
  refine G_bipush (pc := 429) (v := nI 28) dL_refuses_429 (by first | rfl | decide) ?_
  refine G_iconst (pc := 431) (v := nI 0) dL_refuses_431 (by first | rfl | decide) ?_
  refine G_iload (pc := 432) dL_refuses_432 rfl ?_
  refine G_iconst (pc := 434) (v := nI 0) dL_refuses_434 (by first | rfl | decide) ?_
  refine RA (pc := 435) (hcel) (by omega) (by omega) h.1 rfl dL_refuses_435 ?_
  refine G_bipush (pc := 438) (v := (-71)) dL_refuses_438 (by first | rfl | decide) ?_
  refine G_icmp_ne (pc := 440) (tgt := 524) dL_refuses_440 (by decide) (fun h => absurd h (by decide)) (fun _ => ?_)
  refine G_aload_n (pc := 443) dL_refuses_443 rfl ?_
  refine G_bipush (pc := 444) (v := nI 29) dL_refuses_444 (by first | rfl | decide) ?_
  refine G_iload (pc := 446) dL_refuses_446 rfl ?_
  refine G_bipush (pc := 448) (v := nI 9) dL_refuses_448 (by first | rfl | decide) ?_
  refine G_iconst (pc := 450) (v := nI 0) dL_refuses_450 (by first | rfl | decide) ?_
  refine RA (pc := 451) (ar_contactsX h hf) (by omega) (by omega) h.1 rfl dL_refuses_451 ?_
  refine G_bipush (pc := 454) (v := (-71)) dL_refuses_454 (by first | rfl | decide) ?_
  refine G_icmp_ne (pc := 456) (tgt := 524) dL_refuses_456 (by decide) (fun h => absurd h (by decide)) (fun _ => ?_)
  refine G_aload_n (pc := 459) dL_refuses_459 rfl ?_
  refine G_bipush (pc := 460) (v := nI 30) dL_refuses_460 (by first | rfl | decide) ?_
  refine G_iload (pc := 462) dL_refuses_462 rfl ?_
  refine G_bipush (pc := 464) (v := nI 9) dL_refuses_464 (by first | rfl | decide) ?_
  refine G_iconst (pc := 466) (v := nI 0) dL_refuses_466 (by first | rfl | decide) ?_
  refine RA (pc := 467) (ar_contactsByPairsX h hf) (by omega) (by omega) h.1 rfl dL_refuses_467 ?_
  refine G_bipush (pc := 470) (v := (-71)) dL_refuses_470 (by first | rfl | decide) ?_
  refine G_icmp_ne (pc := 472) (tgt := 524) dL_refuses_472 (by decide) (fun h => absurd h (by decide)) (fun _ => ?_)
  refine G_aload_n (pc := 475) dL_refuses_475 rfl ?_
  refine G_bipush (pc := 476) (v := nI 31) dL_refuses_476 (by first | rfl | decide) ?_
  refine G_iload (pc := 478) dL_refuses_478 rfl ?_
  refine G_iconst (pc := 480) (v := nI 0) dL_refuses_480 (by first | rfl | decide) ?_
  refine G_iconst (pc := 481) (v := nI 0) dL_refuses_481 (by first | rfl | decide) ?_
  refine RA (pc := 482) (ar_wearX h h6) (by omega) (by omega) h.1 rfl dL_refuses_482 ?_
  refine G_bipush (pc := 485) (v := (-71)) dL_refuses_485 (by first | rfl | decide) ?_
  refine G_icmp_ne (pc := 487) (tgt := 524) dL_refuses_487 (by decide) (fun h => absurd h (by decide)) (fun _ => ?_)
  refine G_aload_n (pc := 490) dL_refuses_490 rfl ?_
  refine G_bipush (pc := 491) (v := nI 32) dL_refuses_491 (by first | rfl | decide) ?_
  refine G_iload (pc := 493) dL_refuses_493 rfl ?_
  refine G_iconst (pc := 495) (v := nI 0) dL_refuses_495 (by first | rfl | decide) ?_
  refine G_iconst (pc := 496) (v := nI 0) dL_refuses_496 (by first | rfl | decide) ?_
  refine RA (pc := 497) (ar_forceX h h8) (by omega) (by omega) h.1 rfl dL_refuses_497 ?_
  refine G_bipush (pc := 500) (v := (-71)) dL_refuses_500 (by first | rfl | decide) ?_
  refine G_icmp_ne (pc := 502) (tgt := 524) dL_refuses_502 (by decide) (fun h => absurd h (by decide)) (fun _ => ?_)
  refine G_aload_n (pc := 505) dL_refuses_505 rfl ?_
  refine G_bipush (pc := 506) (v := nI 32) dL_refuses_506 (by first | rfl | decide) ?_
  refine G_iconst (pc := 508) (v := nI 0) dL_refuses_508 (by first | rfl | decide) ?_
  refine G_iload (pc := 509) dL_refuses_509 rfl ?_
  refine G_iconst (pc := 511) (v := nI 0) dL_refuses_511 (by first | rfl | decide) ?_
  refine RA (pc := 512) (ar_forceY h (c := 0) (by decide) hp) (by omega) (by omega) h.1 rfl dL_refuses_512 ?_
  refine G_bipush (pc := 515) (v := (-72)) dL_refuses_515 (by first | rfl | decide) ?_
  refine G_icmp_ne (pc := 517) (tgt := 524) dL_refuses_517 (by decide) (fun h => absurd h (by decide)) (fun _ => ?_)
  refine G_iconst (pc := 520) (v := nI 1) dL_refuses_520 (by first | rfl | decide) ?_
  refine G_goto (pc := 521) (tgt := 525) dL_refuses_521 (by decide) ?_
  refine G_istore (pc := 525) dL_refuses_525 (by decide) ?_
  refine G_iconst (pc := 527) (v := nI 2) dL_refuses_527 (by first | rfl | decide) ?_
  refine G_istore (pc := 528) dL_refuses_528 (by decide) ?_
  refine G_weak (weak_take (j := 15) (r := 2)) ?_
  exact what_loop h h4 h6 h8 hf hp (by decide) 26 2 _ _ rfl (by decide) (by omega) (by omega) (fun c1 c2 b1 b2 => ref_tail h h4 h6 h8 hf hp (by decide) (by omega) (by omega) (fun c3 c4 b3 b4 => kk c3 c4 (by omega) (by omega)))
theorem big_bad {m : Nat} (h : m ≤ 20) : ¬ (2147483647 : Int32) ≤ nI m - nI 1 := by
  have q : ∀ i, i < 21 → ¬ (2147483647 : Int32) ≤ nI i - nI 1 := by decide
  exact q m (by omega)
theorem ref_0 {Γ : GTy} {W : WTy} {n : Nat} {Z : HS} {F A : FT} {g : GN} (h : CI n Z F g A) {mi ow cl mo : Int32} (hmo : mo = 2147483647) {kc ks : Nat} (hk1 : kc ≤ 3000) (hk2 : ks ≤ 25000) (kk : ∀ kc' ks' : Nat, kc' ≤ kc + 700 → ks' ≤ ks + 5600 → gR Γ W kc' ks' 25 [some (.ref 800000), some (.int (nI (g 16 0))), some (.int mi), some (.int ow), some (.int cl), some (.int mo), some (.int (nI 1)), none, none, none, none, none, none, none, none, none, none] Z) : gR Γ W kc ks 25 [some (.ref 800000), some (.int (nI (g 16 0))), some (.int mi), some (.int ow), some (.int cl), some (.int mo), some (.int (nI 0)), none, none, none, none, none, none, none, none, none, none] Z := by
  have g20 := h.2.1.1.1.2.2
  show G Γ M_L_refuses (rm M_L_refuses) W (kc, ks) 25 [some (.ref 800000), some (.int (nI (g 16 0))), some (.int mi), some (.int ow), some (.int cl), some (.int mo), some (.int (nI 0)), none, none, none, none, none, none, none, none, none, none] [] Z
  refine G_iload (pc := 25) dL_refuses_25 rfl ?_
  refine G_iconst (pc := 27) (v := nI 4) dL_refuses_27 (by first | rfl | decide) ?_
  refine G_icmp_geN (pc := 28) (tgt := 775) (by omega) (by omega) dL_refuses_28 (by decide) (fun h => absurd h (by decide)) (fun _ => ?_)
  refine G_iload (pc := 31) dL_refuses_31 rfl ?_
  refine G_if_neN (pc := 33) (tgt := 40) (by omega) dL_refuses_33 (by decide) (fun h => absurd h (by decide)) (fun _ => ?_)
  refine G_iconst (pc := 36) (v := -1) dL_refuses_36 (by first | rfl | decide) ?_
  refine G_goto (pc := 37) (tgt := 56) dL_refuses_37 (by decide) ?_
  refine G_istore (pc := 56) dL_refuses_56 (by decide) ?_
  refine G_iload (pc := 58) dL_refuses_58 rfl ?_
  refine G_iconst (pc := 60) (v := nI 1) dL_refuses_60 (by first | rfl | decide) ?_
  refine G_icmp_neN (pc := 61) (tgt := 68) (by omega) (by omega) dL_refuses_61 (by decide) (fun _ => ?_) (fun h => absurd h (by decide))
  refine G_iload (pc := 68) dL_refuses_68 rfl ?_
  refine G_istore (pc := 70) dL_refuses_70 (by decide) ?_
  refine G_iload (pc := 72) dL_refuses_72 rfl ?_
  refine G_iconst (pc := 74) (v := nI 1) dL_refuses_74 (by first | rfl | decide) ?_
  refine G_icmp_neN (pc := 75) (tgt := 83) (by omega) (by omega) dL_refuses_75 (by decide) (fun _ => ?_) (fun h => absurd h (by decide))
  refine G_iload (pc := 83) dL_refuses_83 rfl ?_
  refine G_istore (pc := 85) dL_refuses_85 (by decide) ?_
  refine G_iload (pc := 87) dL_refuses_87 rfl ?_
  refine G_iconst (pc := 89) (v := nI 1) dL_refuses_89 (by first | rfl | decide) ?_
  refine G_icmp_neN (pc := 90) (tgt := 98) (by omega) (by omega) dL_refuses_90 (by decide) (fun _ => ?_) (fun h => absurd h (by decide))
  refine G_iload (pc := 98) dL_refuses_98 rfl ?_
  refine G_istore (pc := 100) dL_refuses_100 (by decide) ?_
  refine G_iload (pc := 102) dL_refuses_102 rfl ?_
  refine G_iconst (pc := 104) (v := nI 1) dL_refuses_104 (by first | rfl | decide) ?_
  refine G_icmp_neN (pc := 105) (tgt := 112) (by omega) (by omega) dL_refuses_105 (by decide) (fun _ => ?_) (fun h => absurd h (by decide))
  refine G_iload (pc := 112) dL_refuses_112 rfl ?_
  refine G_istore (pc := 114) dL_refuses_114 (by decide) ?_
  refine G_iload (pc := 116) dL_refuses_116 rfl ?_
  refine G_if_neN (pc := 118) (tgt := 125) (by omega) dL_refuses_118 (by decide) (fun h => absurd h (by decide)) (fun _ => ?_)
  refine G_iconst (pc := 121) (v := nI 0) dL_refuses_121 (by first | rfl | decide) ?_
  refine G_goto (pc := 122) (tgt := 138) dL_refuses_122 (by decide) ?_
  refine G_istore (pc := 138) dL_refuses_138 (by decide) ?_
  exact ref_body_0 h (by subst hmo; decide) (by subst hmo; decide) (by subst hmo; decide) (by subst hmo; exact fun q => absurd q.1 (by decide)) (by subst hmo; decide) (by subst hmo; decide) hk1 hk2 kk
theorem ref_1 {Γ : GTy} {W : WTy} {n : Nat} {Z : HS} {F A : FT} {g : GN} (h : CI n Z F g A) {mi ow cl mo : Int32} (hmo : mo = 2147483647) {kc ks : Nat} (hk1 : kc ≤ 3000) (hk2 : ks ≤ 25000) (kk : ∀ kc' ks' : Nat, kc' ≤ kc + 700 → ks' ≤ ks + 5600 → gR Γ W kc' ks' 25 [some (.ref 800000), some (.int (nI (g 16 0))), some (.int mi), some (.int ow), some (.int cl), some (.int mo), some (.int (nI 2)), none, none, none, none, none, none, none, none, none, none] Z) : gR Γ W kc ks 25 [some (.ref 800000), some (.int (nI (g 16 0))), some (.int mi), some (.int ow), some (.int cl), some (.int mo), some (.int (nI 1)), none, none, none, none, none, none, none, none, none, none] Z := by
  have g20 := h.2.1.1.1.2.2
  show G Γ M_L_refuses (rm M_L_refuses) W (kc, ks) 25 [some (.ref 800000), some (.int (nI (g 16 0))), some (.int mi), some (.int ow), some (.int cl), some (.int mo), some (.int (nI 1)), none, none, none, none, none, none, none, none, none, none] [] Z
  refine G_iload (pc := 25) dL_refuses_25 rfl ?_
  refine G_iconst (pc := 27) (v := nI 4) dL_refuses_27 (by first | rfl | decide) ?_
  refine G_icmp_geN (pc := 28) (tgt := 775) (by omega) (by omega) dL_refuses_28 (by decide) (fun h => absurd h (by decide)) (fun _ => ?_)
  refine G_iload (pc := 31) dL_refuses_31 rfl ?_
  refine G_if_neN (pc := 33) (tgt := 40) (by omega) dL_refuses_33 (by decide) (fun _ => ?_) (fun h => absurd h (by decide))
  refine G_iload (pc := 40) dL_refuses_40 rfl ?_
  refine G_iconst (pc := 42) (v := nI 2) dL_refuses_42 (by first | rfl | decide) ?_
  refine G_icmp_neN (pc := 43) (tgt := 51) (by omega) (by omega) dL_refuses_43 (by decide) (fun _ => ?_) (fun h => absurd h (by decide))
  refine G_iload (pc := 51) dL_refuses_51 rfl ?_
  refine G_ineg (pc := 53) dL_refuses_53 ?_
  refine G_iconst (pc := 54) (v := nI 1) dL_refuses_54 (by first | rfl | decide) ?_
  refine G_isub (pc := 55) dL_refuses_55 ?_
  refine G_istore (pc := 56) dL_refuses_56 (by decide) ?_
  refine G_iload (pc := 58) dL_refuses_58 rfl ?_
  refine G_iconst (pc := 60) (v := nI 1) dL_refuses_60 (by first | rfl | decide) ?_
  refine G_icmp_neN (pc := 61) (tgt := 68) (by omega) (by omega) dL_refuses_61 (by decide) (fun h => absurd h (by decide)) (fun _ => ?_)
  refine G_iconst (pc := 64) (v := nI 4) dL_refuses_64 (by first | rfl | decide) ?_
  refine G_goto (pc := 65) (tgt := 70) dL_refuses_65 (by decide) ?_
  refine G_istore (pc := 70) dL_refuses_70 (by decide) ?_
  refine G_iload (pc := 72) dL_refuses_72 rfl ?_
  refine G_iconst (pc := 74) (v := nI 1) dL_refuses_74 (by first | rfl | decide) ?_
  refine G_icmp_neN (pc := 75) (tgt := 83) (by omega) (by omega) dL_refuses_75 (by decide) (fun h => absurd h (by decide)) (fun _ => ?_)
  refine G_bipush (pc := 78) (v := nI 6) dL_refuses_78 (by first | rfl | decide) ?_
  refine G_goto (pc := 80) (tgt := 85) dL_refuses_80 (by decide) ?_
  refine G_istore (pc := 85) dL_refuses_85 (by decide) ?_
  refine G_iload (pc := 87) dL_refuses_87 rfl ?_
  refine G_iconst (pc := 89) (v := nI 1) dL_refuses_89 (by first | rfl | decide) ?_
  refine G_icmp_neN (pc := 90) (tgt := 98) (by omega) (by omega) dL_refuses_90 (by decide) (fun h => absurd h (by decide)) (fun _ => ?_)
  refine G_bipush (pc := 93) (v := nI 8) dL_refuses_93 (by first | rfl | decide) ?_
  refine G_goto (pc := 95) (tgt := 100) dL_refuses_95 (by decide) ?_
  refine G_istore (pc := 100) dL_refuses_100 (by decide) ?_
  refine G_iload (pc := 102) dL_refuses_102 rfl ?_
  refine G_iconst (pc := 104) (v := nI 1) dL_refuses_104 (by first | rfl | decide) ?_
  refine G_icmp_neN (pc := 105) (tgt := 112) (by omega) (by omega) dL_refuses_105 (by decide) (fun h => absurd h (by decide)) (fun _ => ?_)
  refine G_iload_n (pc := 108) dL_refuses_108 rfl ?_
  refine G_goto (pc := 109) (tgt := 114) dL_refuses_109 (by decide) ?_
  refine G_istore (pc := 114) dL_refuses_114 (by decide) ?_
  refine G_iload (pc := 116) dL_refuses_116 rfl ?_
  refine G_if_neN (pc := 118) (tgt := 125) (by omega) dL_refuses_118 (by decide) (fun _ => ?_) (fun h => absurd h (by decide))
  refine G_iload (pc := 125) dL_refuses_125 rfl ?_
  refine G_iconst (pc := 127) (v := nI 1) dL_refuses_127 (by first | rfl | decide) ?_
  refine G_icmp_neN (pc := 128) (tgt := 136) (by omega) (by omega) dL_refuses_128 (by decide) (fun h => absurd h (by decide)) (fun _ => ?_)
  refine G_bipush (pc := 131) (v := nI 41) dL_refuses_131 (by first | rfl | decide) ?_
  refine G_goto (pc := 133) (tgt := 138) dL_refuses_133 (by decide) ?_
  refine G_istore (pc := 138) dL_refuses_138 (by decide) ?_
  exact ref_body_1 h (by subst hmo; decide) (by subst hmo; decide) (by subst hmo; decide) (fun q => by have q2 := q.2; rcases Nat.eq_zero_or_pos (g 16 0) with e | e; rw [e] at q2; exact absurd q2 (by decide); rw [nI_sub (by omega)] at q2; exact absurd ((nI_leI (by omega) (by omega)).mp q2) (by omega)) (by subst hmo; decide) hk1 hk2 kk
theorem ref_2 {Γ : GTy} {W : WTy} {n : Nat} {Z : HS} {F A : FT} {g : GN} (h : CI n Z F g A) {mi ow cl mo : Int32} (hmo : mo = 2147483647) {kc ks : Nat} (hk1 : kc ≤ 3000) (hk2 : ks ≤ 25000) (kk : ∀ kc' ks' : Nat, kc' ≤ kc + 700 → ks' ≤ ks + 5600 → gR Γ W kc' ks' 25 [some (.ref 800000), some (.int (nI (g 16 0))), some (.int mi), some (.int ow), some (.int cl), some (.int mo), some (.int (nI 3)), none, none, none, none, none, none, none, none, none, none] Z) : gR Γ W kc ks 25 [some (.ref 800000), some (.int (nI (g 16 0))), some (.int mi), some (.int ow), some (.int cl), some (.int mo), some (.int (nI 2)), none, none, none, none, none, none, none, none, none, none] Z := by
  have g20 := h.2.1.1.1.2.2
  show G Γ M_L_refuses (rm M_L_refuses) W (kc, ks) 25 [some (.ref 800000), some (.int (nI (g 16 0))), some (.int mi), some (.int ow), some (.int cl), some (.int mo), some (.int (nI 2)), none, none, none, none, none, none, none, none, none, none] [] Z
  refine G_iload (pc := 25) dL_refuses_25 rfl ?_
  refine G_iconst (pc := 27) (v := nI 4) dL_refuses_27 (by first | rfl | decide) ?_
  refine G_icmp_geN (pc := 28) (tgt := 775) (by omega) (by omega) dL_refuses_28 (by decide) (fun h => absurd h (by decide)) (fun _ => ?_)
  refine G_iload (pc := 31) dL_refuses_31 rfl ?_
  refine G_if_neN (pc := 33) (tgt := 40) (by omega) dL_refuses_33 (by decide) (fun _ => ?_) (fun h => absurd h (by decide))
  refine G_iload (pc := 40) dL_refuses_40 rfl ?_
  refine G_iconst (pc := 42) (v := nI 2) dL_refuses_42 (by first | rfl | decide) ?_
  refine G_icmp_neN (pc := 43) (tgt := 51) (by omega) (by omega) dL_refuses_43 (by decide) (fun h => absurd h (by decide)) (fun _ => ?_)
  refine G_iload (pc := 46) dL_refuses_46 rfl ?_
  refine G_goto (pc := 48) (tgt := 56) dL_refuses_48 (by decide) ?_
  refine G_istore (pc := 56) dL_refuses_56 (by decide) ?_
  refine G_iload (pc := 58) dL_refuses_58 rfl ?_
  refine G_iconst (pc := 60) (v := nI 1) dL_refuses_60 (by first | rfl | decide) ?_
  refine G_icmp_neN (pc := 61) (tgt := 68) (by omega) (by omega) dL_refuses_61 (by decide) (fun _ => ?_) (fun h => absurd h (by decide))
  refine G_iload (pc := 68) dL_refuses_68 rfl ?_
  refine G_istore (pc := 70) dL_refuses_70 (by decide) ?_
  refine G_iload (pc := 72) dL_refuses_72 rfl ?_
  refine G_iconst (pc := 74) (v := nI 1) dL_refuses_74 (by first | rfl | decide) ?_
  refine G_icmp_neN (pc := 75) (tgt := 83) (by omega) (by omega) dL_refuses_75 (by decide) (fun _ => ?_) (fun h => absurd h (by decide))
  refine G_iload (pc := 83) dL_refuses_83 rfl ?_
  refine G_istore (pc := 85) dL_refuses_85 (by decide) ?_
  refine G_iload (pc := 87) dL_refuses_87 rfl ?_
  refine G_iconst (pc := 89) (v := nI 1) dL_refuses_89 (by first | rfl | decide) ?_
  refine G_icmp_neN (pc := 90) (tgt := 98) (by omega) (by omega) dL_refuses_90 (by decide) (fun _ => ?_) (fun h => absurd h (by decide))
  refine G_iload (pc := 98) dL_refuses_98 rfl ?_
  refine G_istore (pc := 100) dL_refuses_100 (by decide) ?_
  refine G_iload (pc := 102) dL_refuses_102 rfl ?_
  refine G_iconst (pc := 104) (v := nI 1) dL_refuses_104 (by first | rfl | decide) ?_
  refine G_icmp_neN (pc := 105) (tgt := 112) (by omega) (by omega) dL_refuses_105 (by decide) (fun _ => ?_) (fun h => absurd h (by decide))
  refine G_iload (pc := 112) dL_refuses_112 rfl ?_
  refine G_istore (pc := 114) dL_refuses_114 (by decide) ?_
  refine G_iload (pc := 116) dL_refuses_116 rfl ?_
  refine G_if_neN (pc := 118) (tgt := 125) (by omega) dL_refuses_118 (by decide) (fun _ => ?_) (fun h => absurd h (by decide))
  refine G_iload (pc := 125) dL_refuses_125 rfl ?_
  refine G_iconst (pc := 127) (v := nI 1) dL_refuses_127 (by first | rfl | decide) ?_
  refine G_icmp_neN (pc := 128) (tgt := 136) (by omega) (by omega) dL_refuses_128 (by decide) (fun _ => ?_) (fun h => absurd h (by decide))
  refine G_iload (pc := 136) dL_refuses_136 rfl ?_
  refine G_istore (pc := 138) dL_refuses_138 (by decide) ?_
  exact ref_body_2 h (by subst hmo; decide) (by subst hmo; decide) (by subst hmo; decide) (by subst hmo; exact fun q => big_bad g20 q.2) (by subst hmo; decide) (by subst hmo; decide) (by subst hmo; decide) hk1 hk2 kk
theorem ref_3 {Γ : GTy} {W : WTy} {n : Nat} {Z : HS} {F A : FT} {g : GN} (h : CI n Z F g A) {mi ow cl mo : Int32} (hmo : mo = 2147483647) {kc ks : Nat} (hk1 : kc ≤ 3000) (hk2 : ks ≤ 25000) (kk : ∀ kc' ks' : Nat, kc' ≤ kc + 700 → ks' ≤ ks + 5600 → gR Γ W kc' ks' 25 [some (.ref 800000), some (.int (nI (g 16 0))), some (.int mi), some (.int ow), some (.int cl), some (.int mo), some (.int (nI 4)), none, none, none, none, none, none, none, none, none, none] Z) : gR Γ W kc ks 25 [some (.ref 800000), some (.int (nI (g 16 0))), some (.int mi), some (.int ow), some (.int cl), some (.int mo), some (.int (nI 3)), none, none, none, none, none, none, none, none, none, none] Z := by
  have g20 := h.2.1.1.1.2.2
  show G Γ M_L_refuses (rm M_L_refuses) W (kc, ks) 25 [some (.ref 800000), some (.int (nI (g 16 0))), some (.int mi), some (.int ow), some (.int cl), some (.int mo), some (.int (nI 3)), none, none, none, none, none, none, none, none, none, none] [] Z
  refine G_iload (pc := 25) dL_refuses_25 rfl ?_
  refine G_iconst (pc := 27) (v := nI 4) dL_refuses_27 (by first | rfl | decide) ?_
  refine G_icmp_geN (pc := 28) (tgt := 775) (by omega) (by omega) dL_refuses_28 (by decide) (fun h => absurd h (by decide)) (fun _ => ?_)
  refine G_iload (pc := 31) dL_refuses_31 rfl ?_
  refine G_if_neN (pc := 33) (tgt := 40) (by omega) dL_refuses_33 (by decide) (fun _ => ?_) (fun h => absurd h (by decide))
  refine G_iload (pc := 40) dL_refuses_40 rfl ?_
  refine G_iconst (pc := 42) (v := nI 2) dL_refuses_42 (by first | rfl | decide) ?_
  refine G_icmp_neN (pc := 43) (tgt := 51) (by omega) (by omega) dL_refuses_43 (by decide) (fun _ => ?_) (fun h => absurd h (by decide))
  refine G_iload (pc := 51) dL_refuses_51 rfl ?_
  refine G_ineg (pc := 53) dL_refuses_53 ?_
  refine G_iconst (pc := 54) (v := nI 1) dL_refuses_54 (by first | rfl | decide) ?_
  refine G_isub (pc := 55) dL_refuses_55 ?_
  refine G_istore (pc := 56) dL_refuses_56 (by decide) ?_
  refine G_iload (pc := 58) dL_refuses_58 rfl ?_
  refine G_iconst (pc := 60) (v := nI 1) dL_refuses_60 (by first | rfl | decide) ?_
  refine G_icmp_neN (pc := 61) (tgt := 68) (by omega) (by omega) dL_refuses_61 (by decide) (fun _ => ?_) (fun h => absurd h (by decide))
  refine G_iload (pc := 68) dL_refuses_68 rfl ?_
  refine G_istore (pc := 70) dL_refuses_70 (by decide) ?_
  refine G_iload (pc := 72) dL_refuses_72 rfl ?_
  refine G_iconst (pc := 74) (v := nI 1) dL_refuses_74 (by first | rfl | decide) ?_
  refine G_icmp_neN (pc := 75) (tgt := 83) (by omega) (by omega) dL_refuses_75 (by decide) (fun _ => ?_) (fun h => absurd h (by decide))
  refine G_iload (pc := 83) dL_refuses_83 rfl ?_
  refine G_istore (pc := 85) dL_refuses_85 (by decide) ?_
  refine G_iload (pc := 87) dL_refuses_87 rfl ?_
  refine G_iconst (pc := 89) (v := nI 1) dL_refuses_89 (by first | rfl | decide) ?_
  refine G_icmp_neN (pc := 90) (tgt := 98) (by omega) (by omega) dL_refuses_90 (by decide) (fun _ => ?_) (fun h => absurd h (by decide))
  refine G_iload (pc := 98) dL_refuses_98 rfl ?_
  refine G_istore (pc := 100) dL_refuses_100 (by decide) ?_
  refine G_iload (pc := 102) dL_refuses_102 rfl ?_
  refine G_iconst (pc := 104) (v := nI 1) dL_refuses_104 (by first | rfl | decide) ?_
  refine G_icmp_neN (pc := 105) (tgt := 112) (by omega) (by omega) dL_refuses_105 (by decide) (fun _ => ?_) (fun h => absurd h (by decide))
  refine G_iload (pc := 112) dL_refuses_112 rfl ?_
  refine G_istore (pc := 114) dL_refuses_114 (by decide) ?_
  refine G_iload (pc := 116) dL_refuses_116 rfl ?_
  refine G_if_neN (pc := 118) (tgt := 125) (by omega) dL_refuses_118 (by decide) (fun _ => ?_) (fun h => absurd h (by decide))
  refine G_iload (pc := 125) dL_refuses_125 rfl ?_
  refine G_iconst (pc := 127) (v := nI 1) dL_refuses_127 (by first | rfl | decide) ?_
  refine G_icmp_neN (pc := 128) (tgt := 136) (by omega) (by omega) dL_refuses_128 (by decide) (fun _ => ?_) (fun h => absurd h (by decide))
  refine G_iload (pc := 136) dL_refuses_136 rfl ?_
  refine G_istore (pc := 138) dL_refuses_138 (by decide) ?_
  exact ref_body_3 h (by subst hmo; decide) (by subst hmo; decide) (by subst hmo; decide) (by subst hmo; exact fun q => absurd q.1 (by decide)) (by subst hmo; decide) (by subst hmo; decide) (by subst hmo; decide) hk1 hk2 kk
theorem C_refuses {Γ : GTy} {n : Nat} {Z : HS} {F A : FT} {g : GN} (h : CI n Z F g A) : Tn Γ M_L_refuses [.ref 800000, .int (nI (g 16 0))] Z (rt (some (.int (nI 1))) Z) := by
  have g20 := h.2.1.1.1.2.2
  refine Tn_of' rfl rfl rfl ?_
  show G Γ M_L_refuses (rm M_L_refuses) (Vn Γ M_L_refuses (rt (some (.int (nI 1))) Z)) (0, 0) 0 [some (.ref 800000), some (.int (nI (g 16 0))), none, none, none, none, none, none, none, none, none, none, none, none, none, none, none] [] Z
  have fin : ∀ kc ks : Nat, kc ≤ 2900 → ks ≤ 23000 → gR Γ (Vn Γ M_L_refuses (rt (some (.int (nI 1))) Z)) kc ks 25 [some (.ref 800000), some (.int (nI (g 16 0))), some (.int (F 0 0)), some (.int (owe F 2)), some (.int (F 105 0)), some (.int 2147483647), some (.int (nI 4)), none, none, none, none, none, none, none, none, none, none] Z := by
    intro kc ks hk1 hk2
    show G Γ M_L_refuses (rm M_L_refuses) _ (kc, ks) 25 [some (.ref 800000), some (.int (nI (g 16 0))), some (.int (F 0 0)), some (.int (owe F 2)), some (.int (F 105 0)), some (.int 2147483647), some (.int (nI 4)), none, none, none, none, none, none, none, none, none, none] [] Z
    refine G_iload (pc := 25) dL_refuses_25 rfl ?_
    refine G_iconst (pc := 27) (v := nI 4) dL_refuses_27 (by first | rfl | decide) ?_
    refine G_icmp_geN (pc := 28) (tgt := 775) (by omega) (by omega) dL_refuses_28 (by decide) (fun _ => ?_) (fun h => absurd h (by decide))
    refine G_aload_n (pc := 775) dL_refuses_775 rfl ?_
    refine K_Vn0r (pc := 776) (k' := (kc, ks)) mok_X9_minute lk_L_117 (sh_k h.1) rfl rfl (rmB_le (a := 5000) (b := 43000) rfl (show kc ≤ 5000 by omega) (show ks ≤ 43000 by omega)) (aok0 rfl) dL_refuses_776 (t_minute h) rfl ?_
    refine G_iload_n (pc := 779) dL_refuses_779 rfl ?_
    refine G_icmp_ne (pc := 780) (tgt := 814) dL_refuses_780 (by decide) (fun c780 => ?_) (fun c780 => ?_)
    · exact absurd rfl c780
    · skip
      refine G_aload_n (pc := 783) dL_refuses_783 rfl ?_
      refine G_iconst (pc := 784) (v := nI 2) dL_refuses_784 (by first | rfl | decide) ?_
      refine R_V (pc := 785) (k' := (kc + 1, ks + 6)) mok_X9_owes lk_L_62 (sh_k h.1) rfl (rmB_le (a := 5000) (b := 43000) rfl (show kc ≤ 5000 by omega) (show ks ≤ 43000 by omega)) rfl rfl (aok0 rfl) dL_refuses_785 (t_owes h (c := 2) (by decide)) (by decide) u2_e rfl (fun Y' q => ?_)
      subst q
      refine G_iload_n (pc := 788) dL_refuses_788 rfl ?_
      refine G_icmp_ne (pc := 789) (tgt := 814) dL_refuses_789 (by decide) (fun c789 => ?_) (fun c789 => ?_)
      · exact absurd rfl c789
      · skip
        refine G_aload_n (pc := 792) dL_refuses_792 rfl ?_
        refine G_iconst (pc := 793) (v := nI 0) dL_refuses_793 (by first | rfl | decide) ?_
        refine R_V (pc := 794) (k' := (kc + 1 + 1, ks + 6 + 6)) mok_X9_clock lk_L_56 (sh_k h.1) rfl (rmB_le (a := 5000) (b := 43000) rfl (show kc + 1 ≤ 5000 by omega) (show ks + 6 ≤ 43000 by omega)) rfl rfl (aok0 rfl) dL_refuses_794 (t_clock h (t := 0) (by decide)) (by decide) u2_e rfl (fun Y' q => ?_)
        subst q
        refine G_iload (pc := 797) dL_refuses_797 rfl ?_
        refine G_icmp_ne (pc := 799) (tgt := 814) dL_refuses_799 (by decide) (fun c799 => ?_) (fun c799 => ?_)
        · exact absurd rfl c799
        · skip
          refine G_aload_n (pc := 802) dL_refuses_802 rfl ?_
          refine K_Vn0r (pc := 803) (k' := (kc + 1 + 1, ks + 6 + 6)) mok_X9_frames lk_L_128 (sh_k h.1) rfl rfl (rmB_le (a := 5000) (b := 43000) rfl (show kc + 1 + 1 ≤ 5000 by omega) (show ks + 6 + 6 ≤ 43000 by omega)) (aok0 rfl) dL_refuses_803 (t_frames h) rfl ?_
          refine G_iload_n (pc := 806) dL_refuses_806 rfl ?_
          refine G_icmp_ne (pc := 807) (tgt := 814) dL_refuses_807 (by decide) (fun c807 => ?_) (fun c807 => ?_)
          · exact absurd h.2.1.1.1.2.1 c807
          · skip
            refine G_iconst (pc := 810) (v := nI 1) dL_refuses_810 (by first | rfl | decide) ?_
            refine G_goto (pc := 811) (tgt := 815) dL_refuses_811 (by decide) ?_
            refine G_zret (pc := 815) VZ.n dL_refuses_815 rfl (Or.inr rfl) ⟨by show kc + 1 + 1 ≤ 5300; omega, by show ks + 6 + 6 ≤ 44000; omega⟩ ?_
            exact ⟨rfl, rfl⟩
  refine G_aload_n (pc := 0) dL_refuses_0 rfl ?_
  refine K_Vn0r (pc := 1) (k' := (0, 0)) mok_X9_minute lk_L_117 (sh_k h.1) rfl rfl rfl (aok0 rfl) dL_refuses_1 (t_minute h) rfl ?_
  refine G_istore_n (pc := 4) dL_refuses_4 (by decide) ?_
  refine G_aload_n (pc := 5) dL_refuses_5 rfl ?_
  refine G_iconst (pc := 6) (v := nI 2) dL_refuses_6 (by first | rfl | decide) ?_
  refine R_V (pc := 7) (k' := (1, 6)) mok_X9_owes lk_L_62 (sh_k h.1) rfl rfl rfl rfl (aok0 rfl) dL_refuses_7 (t_owes h (c := 2) (by decide)) (by decide) u2_e rfl (fun Y' q => ?_)
  subst q
  refine G_istore_n (pc := 10) dL_refuses_10 (by decide) ?_
  refine G_aload_n (pc := 11) dL_refuses_11 rfl ?_
  refine G_iconst (pc := 12) (v := nI 0) dL_refuses_12 (by first | rfl | decide) ?_
  refine R_V (pc := 13) (k' := (2, 12)) mok_X9_clock lk_L_56 (sh_k h.1) rfl rfl rfl rfl (aok0 rfl) dL_refuses_13 (t_clock h (t := 0) (by decide)) (by decide) u2_e rfl (fun Y' q => ?_)
  subst q
  refine G_istore (pc := 16) dL_refuses_16 (by decide) ?_
  refine G_ldc (pc := 18) cst_ok dL_refuses_18 ?_
  refine G_istore (pc := 20) dL_refuses_20 (by decide) ?_
  refine G_iconst (pc := 22) (v := nI 0) dL_refuses_22 (by first | rfl | decide) ?_
  refine G_istore (pc := 23) dL_refuses_23 (by decide) ?_
  exact ref_0 h rfl (by omega) (by omega) (fun c1 c2 a1 a2 => ref_1 h rfl (by omega) (by omega) (fun c3 c4 a3 a4 => ref_2 h rfl (by omega) (by omega) (fun c5 c6 a5 a6 => ref_3 h rfl (by omega) (by omega) (fun c7 c8 a7 a8 => fin c7 c8 (by omega) (by omega)))))
