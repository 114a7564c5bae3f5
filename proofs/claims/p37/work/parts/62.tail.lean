-- ===== a shot's end =====
theorem xR_f {X : HS} {c k a : Nat} {v : Option Nat} : xR (sR X c k a v) = u3 (xR X) c k a v := rfl
theorem xI_f {X : HS} {c k a : Nat} {v : Int32} : xI (sI X c k a v) = u3 (xI X) c k a v := rfl
theorem xR_wF {f p e : Nat} {Z : HS} {D : FT} : xR (wF f p e Z D) = xR Z := rfl
theorem xP_wF {f p e : Nat} {Z : HS} {D : FT} : xP (wF f p e Z D) = xP Z := rfl
theorem xK_wF {f p e : Nat} {Z : HS} {D : FT} : xK (wF f p e Z D) = xK Z := rfl
theorem xn_wF {f p e : Nat} {Z : HS} {D : FT} : xn (wF f p e Z D) = xn Z := rfl
theorem xI_w6 {f p e k a : Nat} {Z Z' : HS} {D : FT} {v : Int32} (h : xI Z' = u3 (xI Z) 6 k a v) : xI (wF f p e Z' D) = u3 (xI (wF f p e Z D)) 6 k a v := by
  funext c' k' a'
  show (if c' = 2 ∧ a' = p ∧ 6 ≤ k' ∧ k' ≤ 10 then D (fs k') (fj f k') else xI Z' c' k' a') = if c' = 6 ∧ k' = k ∧ a' = a then v else if c' = 2 ∧ a' = p ∧ 6 ≤ k' ∧ k' ≤ 10 then D (fs k') (fj f k') else xI Z c' k' a'
  rw [h]
  by_cases q : c' = 2 ∧ a' = p ∧ 6 ≤ k' ∧ k' ≤ 10
  · rw [if_pos q, if_neg (fun w => by omega), if_pos q]
  · rw [if_neg q, if_neg q]
    rfl
theorem xI_ws {f p e : Nat} {Z Z' : HS} {D : FT} (h : xI Z' = xI Z) : xI (wF f p e Z' D) = xI (wF f p e Z D) := by
  show (fun c' k a => if c' = 2 ∧ a = p ∧ 6 ≤ k ∧ k ≤ 10 then D (fs k) (fj f k) else xI Z' c' k a) = _
  rw [h]
  rfl
theorem xA_ws {f p e : Nat} {Z Z' : HS} {D : FT} (h : xA Z' = xA Z) : xA (wF f p e Z' D) = xA (wF f p e Z D) := by
  show (fun a i => if a = e ∧ i < 8 then D 118 (8 * f + i) else xA Z' a i) = _
  rw [h]
  rfl
theorem wN_o {V D : FT} {f n c : Nat} (h : ∀ j, j < n → j ≠ f → D 112 j = V 112 j ∧ D 117 j = V 117 j) (e2 : D 112 f = V 112 f) (hv : V 117 f = -1) (hf : f < n) {w : Nat} (w8 : w < 8) (c8 : c < 8) (hw : D 117 f = nI w) : wN D n c = wN V n c + (if ¬ V 112 f = 0 ∧ w = c then 1 else 0) := by
  by_cases e : ¬ V 112 f = 0 ∧ w = c
  · rw [if_pos e]
    exact (cnt_one (f := f) (p := fun k => ¬ D 112 k = 0 ∧ D 117 k = nI c) (q := fun k => ¬ V 112 k = 0 ∧ V 117 k = nI c) ⟨by rw [e2]; exact e.1, by rw [hw, e.2]⟩ (fun q => nI_nm1 (by omega) (q.2.symm.trans hv)) (fun j hj ne => by rw [(h j hj ne).1, (h j hj ne).2])).trans (by rw [if_pos hf]; rfl)
  · rw [if_neg e, Nat.add_zero]
    refine cnt_congr (fun j hj => ?_)
    by_cases q : j = f
    · rw [q, e2, hw, hv]
      exact ⟨fun y => absurd ⟨y.1, (nI_eq (by omega) (by omega)).mp y.2⟩ e, fun y => absurd y.2.symm (nI_nm1 (by omega))⟩
    · rw [(h j hj q).1, (h j hj q).2]
theorem shot_tail {Γ : GTy} (hG : GS Γ) {n : Nat} {Z : HS} {V A : FT} {g : GN} (h : CI n Z V g A) {f : Nat} (hf : f < g 16 0) (hs : V 113 f = nI 0) (hJ : JV V) (hKV : KV (fun k => V 118 (8 * f + k)) V) (hO : RO Z V) :
    Tn Γ M_X2_settle [.ref (200000 + f), .ref 10] Z (rt (some (.int (mShE V f (g 22 f) (lowF V f)).1)) (wF f (200000 + f) (1200000 + f) Z (mShE V f (g 22 f) (lowF V f)).2)) ∧ SH (wF f (200000 + f) (1200000 + f) Z (mShE V f (g 22 f) (lowF V f)).2) ∧ xK (wF f (200000 + f) (1200000 + f) Z (mShE V f (g 22 f) (lowF V f)).2) (200000 + f) = 2 ∧ rF (wF f (200000 + f) (1200000 + f) Z (mShE V f (g 22 f) (lowF V f)).2) = rF Z ∧
    ((Tn Γ M_X2_isOver [.ref (200000 + f)] (wF f (200000 + f) (1200000 + f) Z (mShE V f (g 22 f) (lowF V f)).2) (rt (some (.int (nI 0))) (wF f (200000 + f) (1200000 + f) Z (mShE V f (g 22 f) (lowF V f)).2)) ∧ ∃ g', CI n (wF f (200000 + f) (1200000 + f) Z (mShE V f (g 22 f) (lowF V f)).2) (mShE V f (g 22 f) (lowF V f)).2 g' A) ∨
     (Tn Γ M_X2_isOver [.ref (200000 + f)] (wF f (200000 + f) (1200000 + f) Z (mShE V f (g 22 f) (lowF V f)).2) (rt (some (.int (nI 1))) (wF f (200000 + f) (1200000 + f) Z (mShE V f (g 22 f) (lowF V f)).2)) ∧ ∃ (L2 L3 : HS) (g' : GN), Tn Γ M_X9_countWin [.ref 800000, .ref (200000 + f)] (wF f (200000 + f) (1200000 + f) Z (mShE V f (g 22 f) (lowF V f)).2) (rt none L2) ∧ SH L2 ∧ xK L2 (200000 + f) = 2 ∧ xR L2 2 5 (200000 + f) = some (700000 + (g 23 f - 1)) ∧ xK L2 (700000 + (g 23 f - 1)) = 7 ∧ Tn Γ M_X9_takeFrameOff [.ref 800000, .ref (700000 + (g 23 f - 1))] L2 (rt none L3) ∧ rF L3 = rF Z ∧ CI n L3 (mShE V f (g 22 f) (lowF V f)).2 g' A)) := by
  have h0 := h
  obtain ⟨hH, ⟨hPI, hPG, hZo⟩, ⟨hZh, hZd, hZw⟩, ⟨hZt, hZc, hZf⟩, ⟨hZr, hZs, hZl⟩, hZfr, hZbd⟩ := h0
  have f20 := hPI.1.2.2
  have fr := hPI.2.2.2.2.1 f hf
  have zf := hZf f hf
  have fr3 : V 117 f = -1 ∧ ¬ lowF V f = -1 ∧ 1 ≤ g 23 f ∧ g 23 f ≤ 4 ∧ g 1 (g 23 f - 1) = f + 1 := by
    rcases fr.2.2 with q | q | q
    · exact absurd (hs.symm.trans q.1) (by decide)
    · exact absurd (hs.symm.trans q.1) (by decide)
    · exact q.2
  have ht : g 23 f - 1 < 4 := by omega
  have hz : g 1 (g 23 f - 1) ≠ 0 := by omega
  have h1f : g 1 (g 23 f - 1) - 1 = f := by omega
  have hst := C_settle (Γ := Γ) zf.1 V hG zf.2.2.1.2.1 zf.2.2.1.2.2.1 fr.1.2.2.2.1.1 fr.1.2.2.2.1.2 hO (by omega) hJ hKV fr.2.1.1 fr.2.1.2.2 fr3.2.1
  rw [h.wFs hf] at hst
  obtain ⟨⟨u', u1, d114⟩, d116, dBV, dDB, dwt, dc⟩ := shE_facts hJ hKV fr.2.1.1 fr.2.1.2.2 fr3.2.1 fr.1.2.2.2.1.1 fr.1.2.2.2.1.2 fr.1.1.1 fr.1.1.2 fr.1.2.1.1 fr.1.2.1.2 fr3.1
  have hI3 : ∀ D' : FT, xI (wF f (200000 + f) (1200000 + f) Z D') 2 3 (200000 + f) = V 112 f := fun D' => (wF_Ic (Or.inr (Or.inr (by decide)))).trans zf.2.2.1.2.2.2
  have hA7 : ∀ (D' : FT) (c : Nat), xA (wF f (200000 + f) (1200000 + f) Z D') 1800007 c = xA Z 1800007 c := fun D' c => wF_Ax (by omega)
  have iso := C_isOverF (Γ := Γ) (f := f) zf.1 (mShE V f (g 22 f) (lowF V f)).2
  have i10 : ∀ D' : FT, xI (wF f (200000 + f) (1200000 + f) Z D') 2 10 (200000 + f) = D' 117 f := fun D' => wF_I ⟨by decide, by decide⟩
  generalize (mShE V f (g 22 f) (lowF V f)).2 = D at *
  have hS1 : SH (wF f (200000 + f) (1200000 + f) Z D) := SH_t hH xK_wF xn_wF (fun c k a _ => by rw [xR_wF]) (fun a i _ => by rw [xP_wF])
  have k1 : xK (wF f (200000 + f) (1200000 + f) Z D) (200000 + f) = 2 := zf.1.1
  have r1 : rF (wF f (200000 + f) (1200000 + f) Z D) = rF Z := rF_wF (by omega)
  refine ⟨hst, hS1, k1, r1, ?_⟩
  rcases dc with ⟨e7, e3, el, eD⟩ | ⟨w, w8, e7, e3, eD, e4⟩
  · left
    rw [b2_f (fun q => q e7)] at iso
    refine ⟨iso, _, CIu_fr h hf (u' := u') (fun s j q1 q2 q3 q4 q5 => eD s j ⟨q1, q2, q3, q4, q5⟩) ⟨d114, u1⟩ d116 (Or.inl e7) dBV dDB dwt (Or.inr (Or.inr ⟨e3.trans hs, e7, el, fr3.2.2.1, fr3.2.2.2.1, fr3.2.2.2.2⟩)) rfl rfl rfl rfl rfl (fun _ _ _ => rfl) (fun c c8 => ?_)⟩
    rw [hA7, hZw c c8]
    refine congrArg nI (cnt_congr (fun j hj => ?_))
    rw [eD 112 j ⟨by decide, by decide, fun y => by omega, fun y => by omega, fun y => by omega⟩]
    by_cases q : j = f
    · rw [q, e7, fr3.1]
    · rw [eD 117 j ⟨by decide, by decide, fun y => q y.1, fun y => by omega, fun y => by omega⟩]
  · right
    rw [b2_t (p := ¬ D 117 f = -1) (fun q => nI_nm1 (by omega) (e7.symm.trans q))] at iso
    refine ⟨iso, ?_⟩
    have hwn : ∀ c, c < 8 → wN D (g 16 0) c = wN V (g 16 0) c + (if ¬ V 112 f = 0 ∧ w = c then 1 else 0) := fun c c8 => wN_o (fun j hj ne => ⟨eD 112 j ⟨by decide, by decide, fun y => by omega, fun y => by omega, fun y => by omega⟩ (by decide), eD 117 j ⟨by decide, by decide, fun y => ne y.1, fun y => by omega, fun y => by omega⟩ (by decide)⟩) (eD 112 f ⟨by decide, by decide, fun y => by omega, fun y => by omega, fun y => by omega⟩ (by decide)) fr3.1 hf w8 c8 e7
    have x25 : xR Z 2 5 (200000 + f) = some (700000 + (g 23 f - 1)) := zf.2.2.2.2.2 (by omega)
    have x73 : xR Z 7 3 (700000 + (g 23 f - 1)) = some (200000 + f) := ((hZt _ ht).2.2.2.2.1 hz).trans (by rw [h1f])
    have kt : xK Z (700000 + (g 23 f - 1)) = 7 := (hH.2.2.1 _ ht).1
    have v113 : D 113 f = nI 2 := e3
    have pD : ∀ s j, s ≠ 25 → ¬ phys s → ¬ (j = f ∧ (s = 113 ∨ s = 114 ∨ s = 116 ∨ s = 117)) → ¬ (s = 115 ∧ (j = 2 * f ∨ j = 2 * f + 1)) → ¬ (s = 118 ∧ 8 * f ≤ j ∧ j < 8 * f + 8) → D s j = mClears V (g 23 f - 1) (g 1 (g 23 f - 1)) s j := fun s j q1 q2 q3 q4 q5 => by
      by_cases c4 : s = 104
      · subst c4
        rw [e4 j, cl_104 hz]
        by_cases y : j = g 23 f - 1
        · rw [if_pos y, y, if_pos ⟨ht, by rw [(hPI.2.1 _ ht).2.2.1.1, fr3.2.2.2.2]⟩]
        · rw [if_neg y]
          refine if_neg (fun z => y ?_)
          have e1 := (hPI.2.1 j z.1).2.2.1
          have e2 : g 1 j = f + 1 := (nI_eq (by omega) (by omega)).mp (e1.1.symm.trans z.2)
          have e5 := (hPI.2.1 j z.1).2.2.2.2.2 (by omega)
          rw [e2, Nat.add_sub_cancel] at e5
          omega
      · by_cases c3 : s = 113
        · subst c3
          rw [cl_113 hz, if_neg (fun y => q3 ⟨by omega, Or.inl rfl⟩)]
          exact eD _ _ ⟨q1, q2, q3, q4, q5⟩ c4
        · rw [cl_o ⟨c4, c3⟩]
          exact eD _ _ ⟨q1, q2, q3, q4, q5⟩ c4
    have o23 : offG V g (g 23 f - 1) 23 f = 0 := by rw [oG_23, if_pos (by omega)]
    have o16 : offG V g (g 23 f - 1) 16 0 = g 16 0 := oG_o (by decide)
    have hs2 : (D 113 f = nI 2 ∧ ¬ D 117 f = -1 ∧ offG V g (g 23 f - 1) 23 f = 0) := ⟨v113, by rw [e7]; exact nI_nm1 (by omega), o23⟩
    by_cases hl : V 112 f = 0
    · have nl : ¬ leag V g (g 23 f - 1) := fun q => q.2 (by rw [h1f]; exact hl)
      have cw := C_cwin0 (Γ := Γ) hS1 k1 ((i10 D).trans e7) w8 (hI3 D) hl
      have tf := C_rawN (Γ := Γ) (Z := (wF f (200000 + f) (1200000 + f) Z D)) hS1 (t := (700000 + (g 23 f - 1))) kt x73 k1 ((hZt _ ht).2.2.2.2.2.1 nl)
      have c1 := CIu_off h ht hz (L := (sR (sR Z 2 5 (200000 + f) none) 7 3 (700000 + (g 23 f - 1)) none)) (by rw [xK_sR', xK_sR']) (by rw [xn_sR', xn_sR']) (by rw [xA_sR', xA_sR']) (by rw [xP_sR', xP_sR']) (fun c k a y => by rw [xI_sR', xI_sR']) (fun q => absurd q nl) (fun c k a y1 y2 y3 => by rw [xR_sR y2, xR_sR (by rw [h1f] at y1; exact y1)]) (by rw [h1f, xR_sR (fun y => absurd y.1 (by decide)), xR_sRe]) xR_sRe (by rw [xR_sR (fun y => absurd y.2.1 (by decide)), xR_sR (fun y => absurd y.1 (by decide))]; exact (hZt _ ht).2.2.2.2.2.1 nl)
      refine ⟨_, _, _, cw, hS1, k1, x25, kt, tf, by rw [rF_sR, rF_sR]; exact r1, CIu_fr c1 (by rw [o16]; exact hf) (u' := u') pD ⟨d114, u1⟩ d116 (Or.inr ⟨w, w8, e7⟩) dBV dDB dwt (Or.inl hs2) (by rw [xK_sR', xK_sR', xK_wF, xK_sR', xK_sR']) (by rw [xn_sR', xn_sR', xn_wF, xn_sR', xn_sR']) (by rw [xR_f, xR_f, xR_wF, xR_f, xR_f]) (by rw [xP_sR', xP_sR', xP_wF, xP_sR', xP_sR']) (by rw [xI_sR', xI_sR']; exact (xI_ws (by rw [xI_sR', xI_sR'])).symm) (fun a i _ => by rw [xA_sR', xA_sR', xA_ws (Z' := (sR (sR Z 2 5 (200000 + f) none) 7 3 (700000 + (g 23 f - 1)) none)) (Z := Z) (by rw [xA_sR', xA_sR'])]) (fun c c8 => ?_)⟩
      rw [xA_sR', xA_sR', hA7, o16, hwn c c8, if_neg (fun y => y.1 hl), Nat.add_zero]
      exact hZw c c8
    · have yl : leag V g (g 23 f - 1) := ⟨hz, by rw [h1f]; exact hl⟩
      obtain ⟨s1, s2, s3⟩ := hPG.2.2.2.1 _ ht yl
      have cw := C_cwin1 (Γ := Γ) hS1 k1 ((i10 D).trans e7) w8 (hI3 D) hl ((hA7 D w).trans (hZw w w8))
      have hS2 : SH (sA (wF f (200000 + f) (1200000 + f) Z D) 1800007 w (nI (wN V (g 16 0) w + 1))) := SH_t hS1 (by rw [xK_sA']) (by rw [xn_sA']) (fun c k a _ => by rw [xR_sA']) (fun a i _ => by rw [xP_sA'])
      have tf := C_rawL (Γ := Γ) (Z := (sA (wF f (200000 + f) (1200000 + f) Z D) 1800007 w (nI (wN V (g 16 0) w + 1)))) hS2 (t := (700000 + (g 23 f - 1))) (p := (200000 + f)) (s := 600000 + g 3 (g 23 f - 1)) (m := nI (g 15 0)) (by rw [xK_sA']; exact kt) (by rw [xR_sA', xR_wF]; exact x73) (by rw [xK_sA']; exact k1) (by rw [xR_sA', xR_wF]; exact (hZt _ ht).2.2.2.2.2.2 yl) (by rw [xK_sA', xK_wF]; exact (hZs _ s1).1) (by rw [xI_sA', wF_Ic (Or.inl (by decide))]; exact hZh.2.2.2)
      have c1 := CIu_off h ht hz (L := (sR (sI (sR (sR Z 2 5 (200000 + f) none) 7 3 (700000 + (g 23 f - 1)) none) 6 2 (600000 + g 3 (g 23 f - 1)) (nI (g 15 0))) 7 4 (700000 + (g 23 f - 1)) none)) (by rw [xK_sR', xK_sI', xK_sR', xK_sR']) (by rw [xn_sR', xn_sI', xn_sR', xn_sR']) (by rw [xA_sR', xA_sI', xA_sR', xA_sR']) (by rw [xP_sR', xP_sI', xP_sR', xP_sR']) (fun c k a y => by rw [xI_sR', xI_sI (fun z => y ⟨z.1, z.2.1, yl, z.2.2⟩), xI_sR', xI_sR']) (fun _ => by rw [xI_sR', xI_sIe]) (fun c k a y1 y2 y3 => by rw [xR_sR y3, xR_sI', xR_sR y2, xR_sR (by rw [h1f] at y1; exact y1)]) (by rw [h1f, xR_sR (fun y => absurd y.1 (by decide)), xR_sI', xR_sR (fun y => absurd y.1 (by decide)), xR_sRe]) (by rw [xR_sR (fun y => absurd y.2.1 (by decide)), xR_sI', xR_sRe]) xR_sRe
      refine ⟨_, _, _, cw, hS2, by rw [xK_sA']; exact k1, by rw [xR_sA', xR_wF]; exact x25, by rw [xK_sA']; exact kt, tf, by rw [rF_sR, rF_sI (by decide), rF_sR, rF_sR, rF_sA (by decide)]; exact r1, CIu_fr c1 (by rw [o16]; exact hf) (u' := u') pD ⟨d114, u1⟩ d116 (Or.inr ⟨w, w8, e7⟩) dBV dDB dwt (Or.inl hs2) (by rw [xK_sR', xK_sI', xK_sR', xK_sR', xK_sA', xK_wF, xK_sR', xK_sI', xK_sR', xK_sR']) (by rw [xn_sR', xn_sI', xn_sR', xn_sR', xn_sA', xn_wF, xn_sR', xn_sI', xn_sR', xn_sR']) (by rw [xR_f, xR_sI', xR_f, xR_f, xR_sA', xR_wF, xR_f, xR_sI', xR_f, xR_f]) (by rw [xP_sR', xP_sI', xP_sR', xP_sR', xP_sA', xP_wF, xP_sR', xP_sI', xP_sR', xP_sR']) (by rw [xI_sR', xI_f, xI_sR', xI_sR', xI_sA']; exact (xI_w6 (Z := Z) (by rw [xI_sR', xI_f, xI_sR', xI_sR'])).symm) (fun a i q => by rw [xA_sR', xA_sI', xA_sR', xA_sR', xA_sA (fun y => q y.1), xA_ws (Z' := (sR (sI (sR (sR Z 2 5 (200000 + f) none) 7 3 (700000 + (g 23 f - 1)) none) 6 2 (600000 + g 3 (g 23 f - 1)) (nI (g 15 0))) 7 4 (700000 + (g 23 f - 1)) none)) (Z := Z) (by rw [xA_sR', xA_sI', xA_sR', xA_sR'])]) (fun c c8 => ?_)⟩
      rw [xA_sR', xA_sI', xA_sR', xA_sR', o16, hwn c c8]
      by_cases y : w = c
      · rw [y, xA_sAe, if_pos ⟨hl, rfl⟩]
      · rw [xA_sA (fun z => y z.2.symm), if_neg (fun z => y z.2), Nat.add_zero, hA7]
        exact hZw c c8
