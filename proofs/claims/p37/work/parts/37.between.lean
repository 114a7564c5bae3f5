-- ===== what holds between the calls =====
def hk : Nat → Nat := fun k => match k with
  | 0 => 17
  | 1 => 12
  | 2 => 13
  | 3 => 15
  | 4 => 16
  | 5 => 14
  | _ => 10
def hl : Nat → Nat := fun k => match k with
  | 0 => 4
  | 1 => 6
  | 2 => 20
  | 3 => 512
  | 4 => 512
  | 5 => 512
  | _ => 8
/-- the shape: what no call changes -/
def SH (Z : HS) : Prop := (xK Z 800000 = 8 ∧ (∀ k, k < 8 → xR Z 8 k 800000 = some (1800000 + k) ∧ xK Z (1800000 + k) = hk k ∧ xn Z (1800000 + k) = hl k) ∧ xR Z 8 8 800000 = some 10 ∧ xR Z 8 9 800000 = some 400010) ∧ (RS 0 10 1000010 Z ∧ RS 4 400010 1400010 Z) ∧ (∀ i, i < 4 → xK Z (700000 + i) = 7 ∧ xP Z 1800000 i = some (700000 + i)) ∧ (∀ i, i < 6 → xK Z (100000 + i) = 1 ∧ xP Z 1800001 i = some (100000 + i)) ∧ True ∧ (True ∧ True)
/-- ghosts: of tables 0 rents, 1 has, 2 rental, 3 stay, 24 clock; of cues 4 lent, 5 loan; of rentals 6 table, 7 customer, 8 start, 9 end, 10 minutes; of stays 11 table, 12 start, 13 end; 14 a loan's customer; 15 now, 16 frames, 17 rentals, 18 stays, 19 loans; of frames 20, 21 players, 22 turn, 23 table -/
abbrev GN : Type := Nat → Nat → Nat
abbrev leag (F : FT) (g : GN) (i : Nat) : Prop := g 1 i ≠ 0 ∧ ¬ F 112 (g 1 i - 1) = 0
def lmS (g : GN) (i st en : Nat) : Nat → Nat
  | 0 => 0
  | s + 1 => lmS g i st en s + (if g 11 s = i then min (g 13 s) en - max (g 12 s) st else 0)
def smR (g : GN) (A : FT) (c : Nat) : Nat → Int32
  | 0 => 0
  | j + 1 => smR g A c j + (if g 7 j = c ∧ g 9 j ≠ 20000 then A 0 j else 0)
def smL (g : GN) (A : FT) (c : Nat) : Nat → Int32
  | 0 => 0
  | l + 1 => smL g A c l + (if g 14 l = c then A 1 l else 0)
def cueW (F : FT) (c : Nat) : Int32 := lastW (fun k => F 107 k = nI (c + 1)) 6
def owe (F : FT) (c : Nat) : Int32 := F 106 c + (if 0 ≤ lastW (fun k => F 107 k = nI (c + 1)) 6 then nI 20 else nI 0)
def FrP (F : FT) (g : GN) (f : Nat) : Prop := ((F 111 (2 * f) = nI (g 20 f) ∧ g 20 f < 8) ∧ (F 111 (2 * f + 1) = nI (g 21 f) ∧ g 21 f < 8) ∧ (F 112 f = 0 ∨ F 112 f = 1) ∧ (F 114 f = nI (g 22 f) ∧ g 22 f ≤ 1) ∧ (F 116 f = 0 ∨ F 116 f = 1) ∧ (F 117 f = -1 ∨ ∃ v, v < 8 ∧ F 117 f = nI v)) ∧ (BV F f ∧ DB F f ∧ ¬ F 118 (8 * f) = -1) ∧ ((F 113 f = nI 2 ∧ ¬ F 117 f = -1 ∧ g 23 f = 0) ∨ (F 113 f = nI 1 ∧ F 117 f = -1 ∧ g 23 f = 0 ∧ ¬ lowF F f = -1) ∨ (F 113 f = nI 0 ∧ F 117 f = -1 ∧ ¬ lowF F f = -1 ∧ 1 ≤ g 23 f ∧ g 23 f ≤ 4 ∧ g 1 (g 23 f - 1) = f + 1))
/-- of the model alone -/
def PI (F : FT) (g : GN) : Prop := ((F 0 0 = nI (g 15 0) ∧ g 15 0 ≤ 10000) ∧ (F 10 0 = nI (g 16 0) ∧ g 16 0 ≤ 20)) ∧ (∀ i, i < 4 → (F 102 i = 0 ∨ F 102 i = 1) ∧ (F 103 i = nI (g 0 i) ∧ g 0 i ≤ 8) ∧ (F 104 i = nI (g 1 i) ∧ g 1 i ≤ g 16 0) ∧ (F 105 i = nI (g 24 i) ∧ g 24 i ≤ g 15 0) ∧ (g 0 i = 0 → g 24 i = 0) ∧ (g 1 i ≠ 0 → g 23 (g 1 i - 1) = i + 1)) ∧ (∀ u, u < 6 → (F 107 u = nI (g 4 u) ∧ g 4 u ≤ 8) ∧ ∃ w, w ≤ 100 ∧ F 108 u = nI w) ∧ (∀ u v, u < 6 → v < 6 → g 4 u = g 4 v → g 4 u ≠ 0 → u = v) ∧ (∀ f, f < g 16 0 → FrP F g f) ∧ (∀ f, g 16 0 ≤ f → F 113 f = nI 0 ∧ F 114 f = nI 0 ∧ F 116 f = nI 0 ∧ F 115 (2 * f) = nI 0 ∧ F 115 (2 * f + 1) = nI 0)
/-- of the rentings, the stays, the loans -/
def PG (F : FT) (g : GN) : Prop := (∀ j, j < g 17 0 → g 6 j < 4 ∧ g 7 j < 8 ∧ g 8 j ≤ g 15 0 ∧ (g 9 j ≠ 20000 → g 9 j ≤ g 15 0 ∧ g 8 j + lmS g (g 6 j) (g 8 j) (g 9 j) (g 18 0) + g 10 j = g 9 j)) ∧ (∀ i, i < 4 → g 0 i ≠ 0 → g 2 i < g 17 0 ∧ g 6 (g 2 i) = i ∧ g 7 (g 2 i) + 1 = g 0 i ∧ g 9 (g 2 i) = 20000 ∧ g 8 (g 2 i) + lmS g i (g 8 (g 2 i)) (g 15 0) (g 18 0) + g 24 i = g 15 0) ∧ (∀ s, s < g 18 0 → (g 12 s ≤ g 15 0 ∧ g 11 s < 4) ∧ (g 13 s = 20000 ∨ g 13 s ≤ g 15 0) ∧ (g 13 s = 20000 → leag F g (g 11 s) ∧ g 3 (g 11 s) = s)) ∧ (∀ i, i < 4 → leag F g i → g 3 i < g 18 0 ∧ g 13 (g 3 i) = 20000 ∧ g 11 (g 3 i) = i) ∧ (∀ u, u < 6 → g 4 u ≠ 0 → g 5 u < g 19 0 ∧ g 14 (g 5 u) + 1 = g 4 u)
def Zh (Z : HS) (F : FT) (g : GN) : Prop := (xI Z 8 10 800000 = nI (g 16 0) ∧ xI Z 8 11 800000 = nI (g 17 0)) ∧ (xI Z 8 12 800000 = nI (g 18 0) ∧ xI Z 8 13 800000 = nI (g 19 0)) ∧ (xI Z 8 14 800000 = F 1 0 ∧ xI Z 8 15 800000 = nI (g 15 0))
def Zd (Z : HS) (F : FT) : Prop := ∀ c, c < 8 → xA Z 1800006 c = owe F c
def Zw (Z : HS) (F : FT) (g : GN) : Prop := ∀ c, c < 8 → xA Z 1800007 c = nI (wN F (g 16 0) c)
def Zt (Z : HS) (F : FT) (g : GN) : Prop := ∀ i, i < 4 → xI Z 7 0 (700000 + i) = b2 (F 102 i = 0) ∧ (g 0 i = 0 → xR Z 7 1 (700000 + i) = none) ∧ (g 0 i ≠ 0 → xR Z 7 1 (700000 + i) = some (500000 + g 2 i) ∧ xI Z 7 2 (700000 + i) = F 105 i) ∧ (g 1 i = 0 → xR Z 7 3 (700000 + i) = none) ∧ (g 1 i ≠ 0 → xR Z 7 3 (700000 + i) = some (200000 + (g 1 i - 1))) ∧ (¬ leag F g i → xR Z 7 4 (700000 + i) = none) ∧ (leag F g i → xR Z 7 4 (700000 + i) = some (600000 + g 3 i))
def Zc (Z : HS) (F : FT) (g : GN) : Prop := ∀ u, u < 6 → xI Z 1 0 (100000 + u) = F 108 u ∧ (g 4 u = 0 → xR Z 1 1 (100000 + u) = none) ∧ (g 4 u ≠ 0 → xR Z 1 1 (100000 + u) = some (300000 + g 5 u) ∧ xI Z 3 1 (300000 + g 5 u) = F 109 u ∧ xI Z 3 2 (300000 + g 5 u) = -1)
def Zf (Z : HS) (F : FT) (g : GN) : Prop := ∀ f, f < g 16 0 → FS (200000 + f) (1200000 + f) Z ∧ xP Z 1800002 f = some (200000 + f) ∧ (xI Z 2 0 (200000 + f) = nI f ∧ xI Z 2 1 (200000 + f) = F 111 (2 * f) ∧ xI Z 2 2 (200000 + f) = F 111 (2 * f + 1) ∧ xI Z 2 3 (200000 + f) = F 112 f) ∧ ((∀ k, 6 ≤ k → k ≤ 10 → xI Z 2 k (200000 + f) = F (fs k) (fj f k)) ∧ ∀ j, j < 8 → xA Z (1200000 + f) j = F 118 (8 * f + j)) ∧ (g 23 f = 0 → xR Z 2 5 (200000 + f) = none) ∧ (g 23 f ≠ 0 → xR Z 2 5 (200000 + f) = some (700000 + (g 23 f - 1)))
def Zr (Z : HS) (A : FT) (g : GN) : Prop := ∀ j, j < g 17 0 → xK Z (500000 + j) = 5 ∧ xP Z 1800003 j = some (500000 + j) ∧ (xI Z 5 0 (500000 + j) = nI (g 6 j) ∧ xI Z 5 1 (500000 + j) = nI (g 7 j) ∧ xI Z 5 2 (500000 + j) = nI (g 8 j)) ∧ xI Z 5 3 (500000 + j) = (if g 9 j = 20000 then -1 else nI (g 9 j)) ∧ (g 9 j ≠ 20000 → A 0 j = (nI (g 10 j) + nI 9) / nI 10 * xI Z 5 4 (500000 + j))
def Zs (Z : HS) (g : GN) : Prop := ∀ s, s < g 18 0 → xK Z (600000 + s) = 6 ∧ xP Z 1800004 s = some (600000 + s) ∧ (xI Z 6 0 (600000 + s) = nI (g 11 s) ∧ xI Z 6 1 (600000 + s) = nI (g 12 s)) ∧ xI Z 6 2 (600000 + s) = (if g 13 s = 20000 then -1 else nI (g 13 s))
def Zl (Z : HS) (A : FT) (g : GN) : Prop := ∀ l, l < g 19 0 → xK Z (300000 + l) = 3 ∧ xP Z 1800005 l = some (300000 + l) ∧ (xI Z 3 0 (300000 + l) = nI (g 14 l) ∧ g 14 l < 8) ∧ ((xI Z 3 2 (300000 + l) = -1 ∧ A 1 l = nI 20) ∨ (¬ xI Z 3 2 (300000 + l) = -1 ∧ A 1 l = (xI Z 3 2 (300000 + l) - xI Z 3 1 (300000 + l)) / nI 5))
def Zfr (Z : HS) (g : GN) : Prop := (∀ f, g 16 0 ≤ f → f < 1000 → xK Z (200000 + f) = 99 ∧ xK Z (1200000 + f) = 99) ∧ (∀ j, g 17 0 ≤ j → j < 1000 → xK Z (500000 + j) = 99) ∧ (∀ j, g 18 0 ≤ j → j < 1000 → xK Z (600000 + j) = 99) ∧ (∀ j, g 19 0 ≤ j → j < 1000 → xK Z (300000 + j) = 99)
def Zo (F A : FT) (g : GN) : Prop := ∀ c, c < 8 → smR g A c (g 17 0) + smL g A c (g 19 0) = owe F c
def Zbd (n : Nat) (g : GN) : Prop := g 17 0 ≤ n ∧ g 18 0 ≤ n ∧ g 19 0 ≤ n ∧ n ≤ 512
def CI (n : Nat) (Z : HS) (F : FT) (g : GN) (A : FT) : Prop := SH Z ∧ (PI F g ∧ PG F g ∧ Zo F A g) ∧ (Zh Z F g ∧ Zd Z F ∧ Zw Z F g) ∧ (Zt Z F g ∧ Zc Z F g ∧ Zf Z F g) ∧ (Zr Z A g ∧ Zs Z g ∧ Zl Z A g) ∧ Zfr Z g ∧ Zbd n g
/-- Z' tells of the cells of Z what Z does, the model's contents aside -/
def AG (Z Z' : HS) : Prop := (∀ a, xK Z a ≠ 99 → xK Z' a = xK Z a ∧ xn Z' a = xn Z a ∧ (∀ c k, xR Z' c k a = xR Z c k a) ∧ ∀ i, xP Z' a i = xP Z a i) ∧ ∀ a, xK Z a ≠ 99 → a < 1900000 → (∀ c k, c < 9 → xI Z' c k a = xI Z c k a) ∧ ∀ i, xA Z' a i = xA Z a i
theorem AG.refl (Z : HS) : AG Z Z := ⟨fun _ _ => ⟨rfl, rfl, fun _ _ => rfl, fun _ => rfl⟩, fun _ _ _ => ⟨fun _ _ _ => rfl, fun _ => rfl⟩⟩
theorem AG.wM (Z : HS) (F : FT) : AG Z (wM Z F) := by
  refine ⟨fun _ _ => ⟨rfl, rfl, fun _ _ => rfl, fun _ => rfl⟩, fun a _ h => ⟨fun c k hc => ?_, fun i => ?_⟩⟩
  · exact if_neg (fun g => by omega)
  · exact if_neg (fun g => by omega)
theorem AG.sJ {Z Z' : HS} (h : AG Z Z') (a i : Nat) (v : Int64) : AG Z (sJ Z' a i v) := h
theorem AG.nX {Z Z' : HS} (h : AG Z Z') {q kd n : Nat} {f : Nat → Int32} (hq : xK Z q = 99) : AG Z (nX Z' q kd n f) := by
  have ne : ∀ a, xK Z a ≠ 99 → a ≠ q := fun a ha e => ha (e ▸ hq)
  refine ⟨fun a ha => ⟨(va_up_ne _ _ (ne a ha)).trans (h.1 a ha).1, (va_up_ne _ _ (ne a ha)).trans (h.1 a ha).2.1, fun c k => (if_neg (ne a ha)).trans ((h.1 a ha).2.2.1 c k), fun i => (congrFun (va_up_ne _ _ (ne a ha)) i).trans ((h.1 a ha).2.2.2 i)⟩, fun a ha h9 => ⟨fun c k hc => (if_neg (ne a ha)).trans ((h.2 a ha h9).1 c k hc), fun i => (congrFun (va_up_ne _ _ (ne a ha)) i).trans ((h.2 a ha h9).2 i)⟩⟩
theorem AG.sI {Z Z' : HS} (h : AG Z Z') {c k q : Nat} {v : Int32} (hq : xK Z q = 99) : AG Z (sI Z' c k q v) := by
  have ne : ∀ a, xK Z a ≠ 99 → a ≠ q := fun a ha e => ha (e ▸ hq)
  exact ⟨h.1, fun a ha h9 => ⟨fun c' k' hc => (if_neg (fun g => ne a ha g.2.2)).trans ((h.2 a ha h9).1 c' k' hc), (h.2 a ha h9).2⟩⟩
theorem AG.sR {Z Z' : HS} (h : AG Z Z') {c k q : Nat} {v : Option Nat} (hq : xK Z q = 99) : AG Z (sR Z' c k q v) := by
  have ne : ∀ a, xK Z a ≠ 99 → a ≠ q := fun a ha e => ha (e ▸ hq)
  exact ⟨fun a ha => ⟨(h.1 a ha).1, (h.1 a ha).2.1, fun c' k' => (if_neg (fun g => ne a ha g.2.2)).trans ((h.1 a ha).2.2.1 c' k'), (h.1 a ha).2.2.2⟩, h.2⟩
theorem hk_ne {k : Nat} : hk k ≠ 99 := by unfold hk; split <;> decide
theorem AG.RS {Z Z' : HS} (h : AG Z Z') {c q b : Nat} (g : RS c q b Z) : RS c q b Z' := by
  have k1 : xK Z q ≠ 99 := by rw [g.1]; rcases g.2.1 with rfl | rfl <;> decide
  refine ⟨(h.1 q k1).1.trans g.1, g.2.1, fun k hk hr => ?_⟩
  obtain ⟨e1, e2, e3⟩ := g.2.2 k hk hr
  have k2 : xK Z (b + bS k) ≠ 99 := by rw [e2]; unfold bK; split <;> decide
  exact ⟨((h.1 q k1).2.2.1 c k).trans e1, (h.1 _ k2).1.trans e2, (h.1 _ k2).2.1.trans e3⟩
theorem AG.SH {Z Z' : HS} (h : AG Z Z') (g : SH Z) : SH Z' := by
  obtain ⟨⟨g1, g2, g3, g4⟩, ⟨g5, g6⟩, g7, g8, g9, g10, g11⟩ := g
  have k8 : xK Z 800000 ≠ 99 := by rw [g1]; decide
  have kt : xK Z 1800000 ≠ 99 := by rw [(g2 0 (by decide)).2.1]; decide
  have kc : xK Z 1800001 ≠ 99 := by rw [(g2 1 (by decide)).2.1]; decide
  refine ⟨⟨(h.1 _ k8).1.trans g1, fun k hk => ?_, ((h.1 _ k8).2.2.1 8 8).trans g3, ((h.1 _ k8).2.2.1 8 9).trans g4⟩, ⟨h.RS g5, h.RS g6⟩, fun i hi => ?_, fun i hi => ?_, trivial, ?_⟩
  · obtain ⟨e1, e2, e3⟩ := g2 k hk
    have k2 : xK Z (1800000 + k) ≠ 99 := by rw [e2]; exact hk_ne
    exact ⟨((h.1 _ k8).2.2.1 8 k).trans e1, (h.1 _ k2).1.trans e2, (h.1 _ k2).2.1.trans e3⟩
  · exact ⟨(h.1 _ (by rw [(g7 i hi).1]; decide)).1.trans (g7 i hi).1, ((h.1 _ kt).2.2.2 i).trans (g7 i hi).2⟩
  · exact ⟨(h.1 _ (by rw [(g8 i hi).1]; decide)).1.trans (g8 i hi).1, ((h.1 _ kc).2.2.2 i).trans (g8 i hi).2⟩
  · exact ⟨trivial, trivial⟩
/-- all but the free ids goes over -/
theorem agCJ {Z Z' : HS} (h : AG Z Z') {n : Nat} {F A : FT} {g : GN} (q : CI n Z F g A) : SH Z' ∧ (Zh Z' F g ∧ Zd Z' F ∧ Zw Z' F g) ∧ (Zt Z' F g ∧ Zc Z' F g ∧ Zf Z' F g) ∧ (Zr Z' A g ∧ Zs Z' g ∧ Zl Z' A g) := by
  obtain ⟨q1, ⟨q2, q3, q4⟩, ⟨q5, q6, q7⟩, ⟨q8, q9, q10⟩, ⟨q11, q12, q13⟩, q14, q15⟩ := q
  have k8 : xK Z 800000 ≠ 99 := by rw [q1.1.1]; decide
  have kA : ∀ k, k < 8 → xK Z (1800000 + k) ≠ 99 := fun k hk => by rw [(q1.1.2.1 k hk).2.1]; exact hk_ne
  have kt : ∀ i, i < 4 → xK Z (700000 + i) ≠ 99 := fun i hi => by rw [(q1.2.2.1 i hi).1]; decide
  have kc : ∀ i, i < 6 → xK Z (100000 + i) ≠ 99 := fun i hi => by rw [(q1.2.2.2.1 i hi).1]; decide
  have h8 := fun k => (h.2 800000 k8 (by decide)).1 8 k (by decide)
  refine ⟨h.SH q1, ⟨?_, fun c hc => ?_, fun c hc => ?_⟩, ⟨fun i hi => ?_, fun u hu => ?_, fun f hf => ?_⟩, ⟨fun j hj => ?_, fun s hs => ?_, fun l hl => ?_⟩⟩
  · unfold Zh
    rw [h8, h8, h8, h8, h8, h8]
    exact q5
  · exact ((h.2 _ (kA 6 (by decide)) (by decide)).2 c).trans (q6 c hc)
  · exact ((h.2 _ (kA 7 (by decide)) (by decide)).2 c).trans (q7 c hc)
  · have e1 := (h.2 _ (kt i hi) (by omega)).1
    have e2 := (h.1 _ (kt i hi)).2.2.1
    rw [e1 7 0 (by decide), e1 7 2 (by decide), e2, e2, e2]
    exact q8 i hi
  · have e1 := (h.2 _ (kc u hu) (by omega)).1
    have e2 := (h.1 _ (kc u hu)).2.2.1
    rw [e1 1 0 (by decide), e2]
    refine ⟨(q9 u hu).1, (q9 u hu).2.1, fun z => ?_⟩
    have k3 : xK Z (300000 + g 5 u) ≠ 99 := by rw [(q13 _ (q3.2.2.2.2 u hu z).1).1]; decide
    have l3 := (q3.2.2.2.2 u hu z).1
    have l4 := q15.2.2
    rw [(h.2 _ k3 (by omega)).1 3 1 (by decide), (h.2 _ k3 (by omega)).1 3 2 (by decide)]
    exact (q9 u hu).2.2 z
  · obtain ⟨e1, e2, e3, ⟨e4, e5⟩, e6⟩ := q10 f hf
    have f20 := q2.1.2.2
    have k2 : xK Z (200000 + f) ≠ 99 := by rw [e1.1]; decide
    have k4 : xK Z (1200000 + f) ≠ 99 := by rw [e1.2.2.1]; decide
    have r2 := (h.1 _ k2).2.2.1
    have i2 := fun k => (h.2 _ k2 (by omega)).1 2 k (by decide)
    refine ⟨⟨(h.1 _ k2).1.trans e1.1, (r2 2 4).trans e1.2.1, (h.1 _ k4).1.trans e1.2.2.1, (h.1 _ k4).2.1.trans e1.2.2.2⟩, ((h.1 _ (kA 2 (by decide))).2.2.2 f).trans e2, ?_, ⟨fun k h1 h2 => (i2 k).trans (e4 k h1 h2), fun j hj => ((h.2 _ k4 (by omega)).2 j).trans (e5 j hj)⟩, ?_⟩
    · rw [i2, i2, i2, i2]; exact e3
    · rw [r2]; exact e6
  · obtain ⟨e1, e2, e3, e4, e5⟩ := q11 j hj
    have l4 := q15
    unfold Zbd at l4
    have k2 : xK Z (500000 + j) ≠ 99 := by rw [e1]; decide
    have i2 := fun k => (h.2 _ k2 (by omega)).1 5 k (by decide)
    refine ⟨(h.1 _ k2).1.trans e1, ((h.1 _ (kA 3 (by decide))).2.2.2 j).trans e2, ?_, ?_, ?_⟩
    · rw [i2, i2, i2]; exact e3
    · rw [i2]; exact e4
    · rw [i2]; exact e5
  · obtain ⟨e1, e2, e3, e4⟩ := q12 s hs
    have l4 := q15
    unfold Zbd at l4
    have k2 : xK Z (600000 + s) ≠ 99 := by rw [e1]; decide
    have i2 := fun k => (h.2 _ k2 (by omega)).1 6 k (by decide)
    refine ⟨(h.1 _ k2).1.trans e1, ((h.1 _ (kA 4 (by decide))).2.2.2 s).trans e2, ?_, ?_⟩
    · rw [i2, i2]; exact e3
    · rw [i2]; exact e4
  · obtain ⟨e1, e2, e3, e4⟩ := q13 l hl
    have l4 := q15
    unfold Zbd at l4
    have k2 : xK Z (300000 + l) ≠ 99 := by rw [e1]; decide
    have i2 := fun k => (h.2 _ k2 (by omega)).1 3 k (by decide)
    refine ⟨(h.1 _ k2).1.trans e1, ((h.1 _ (kA 5 (by decide))).2.2.2 l).trans e2, ?_, ?_⟩
    · rw [i2]; exact e3
    · rw [i2, i2]; exact e4
theorem AG.CI {Z Z' : HS} (h : AG Z Z') {n : Nat} {F A : FT} {g : GN} (q : CI n Z F g A) (hn : Zfr Z' g) : CI n Z' F g A := by
  obtain ⟨c1, c2, c3, c4⟩ := agCJ h q
  exact ⟨c1, q.2.1, c2, c3, c4, hn, q.2.2.2.2.2.2⟩
/-- the model's scratch cells: what its answers leave there -/
def SC (s : Nat) : Prop := s = 25 ∨ phys s
/-- F' is F but for the scratch -/
def FQ (F F' : FT) : Prop := ∀ s j, s ≠ 25 → ¬ phys s → F' s j = F s j
theorem FQ.refl (F : FT) : FQ F F := fun _ _ _ _ => rfl
theorem FQ.thr {F F' : FT} (h : FQ F F') (v : Int32) : FQ F (thr F' v) := fun s j h1 h2 => (u2_s h1).trans (h s j h1 h2)
theorem FQ.shot {F F' : FT} (h : FQ F F') {f d : Nat} {z : Int32} : FQ F (mShot F' f d z) := fun s j h1 h2 => (mShot_o h2).trans (h s j h1 h2)
theorem FQ.frP {F F' : FT} (h : FQ F F') {g : GN} {f : Nat} (q : FrP F g f) : FrP F' g f := by
  have e := fun s j (h1 : s ≠ 25) (h2 : ¬ phys s) => h s j h1 h2
  unfold FrP BV DB lowF at q ⊢
  simp only [e 111 _ (by decide) (by decide), e 112 _ (by decide) (by decide), e 113 _ (by decide) (by decide), e 114 _ (by decide) (by decide), e 116 _ (by decide) (by decide), e 117 _ (by decide) (by decide), e 118 _ (by decide) (by decide)]
  exact q
theorem FQ.PI {F F' : FT} (h : FQ F F') {g : GN} (q : PI F g) : PI F' g := by
  obtain ⟨q1, q2, q3, q4, q5, q6⟩ := q
  have e := fun s j (h1 : s ≠ 25) (h2 : ¬ phys s) => h s j h1 h2
  refine ⟨?_, fun i hi => ?_, fun u hu => ?_, q4, fun f hf => h.frP (q5 f hf), fun f hf => ?_⟩
  · rw [e 0 _ (by decide) (by decide), e 10 _ (by decide) (by decide)]; exact q1
  · rw [e 102 _ (by decide) (by decide), e 103 _ (by decide) (by decide), e 104 _ (by decide) (by decide), e 105 _ (by decide) (by decide)]; exact q2 i hi
  · rw [e 107 _ (by decide) (by decide), e 108 _ (by decide) (by decide)]; exact q3 u hu
  · rw [e 113 _ (by decide) (by decide), e 114 _ (by decide) (by decide), e 116 _ (by decide) (by decide), e 115 _ (by decide) (by decide), e 115 _ (by decide) (by decide)]; exact q6 f hf
theorem FQ.ow {F F' : FT} (h : FQ F F') (c : Nat) : owe F' c = owe F c := by
  have e := fun s j (h1 : s ≠ 25) (h2 : ¬ phys s) => h s j h1 h2
  unfold owe
  rw [e 106 _ (by decide) (by decide), lastW_congr (q := fun k => F 107 k = nI (c + 1)) (fun j _ => by rw [e 107 _ (by decide) (by decide)])]
theorem FQ.wn {F F' : FT} (h : FQ F F') (n c : Nat) : wN F' n c = wN F n c := by
  have e := fun s j (h1 : s ≠ 25) (h2 : ¬ phys s) => h s j h1 h2
  unfold wN
  exact cnt_congr (fun j _ => by rw [e 112 _ (by decide) (by decide), e 117 _ (by decide) (by decide)])
theorem FQ.pg {F F' : FT} (h : FQ F F') {g : GN} (q : PG F g) : PG F' g := by
  have e := fun j => h 112 j (by decide) (by decide)
  unfold PG leag at q ⊢
  simp only [e]
  exact q
theorem FQ.CI {F F' : FT} (h : FQ F F') {n : Nat} {Z : HS} {g : GN} {A : FT} (q : CI n Z F g A) : CI n Z F' g A := by
  obtain ⟨q1, ⟨q2, q3, q4⟩, ⟨q5, q6, q7⟩, ⟨q8, q9, q10⟩, q11, q12⟩ := q
  have e := fun s j (h1 : s ≠ 25) (h2 : ¬ phys s) => h s j h1 h2
  refine ⟨q1, ⟨h.PI q2, h.pg q3, fun c hc => ?_⟩, ⟨?_, fun c hc => ?_, fun c hc => ?_⟩, ⟨fun i hi => ?_, fun u hu => ?_, fun f hf => ?_⟩, q11, q12⟩
  · rw [h.ow]; exact q4 c hc
  · unfold Zh
    rw [e 1 _ (by decide) (by decide)]; exact q5
  · rw [h.ow]; exact q6 c hc
  · rw [h.wn]; exact q7 c hc
  · have := q8 i hi
    unfold leag at this ⊢
    rw [b2_eq (q := F 102 i = 0) (by rw [e 102 _ (by decide) (by decide)]), e 105 _ (by decide) (by decide), e 112 _ (by decide) (by decide)]
    exact this
  · rw [e 108 _ (by decide) (by decide), e 109 _ (by decide) (by decide)]; exact q9 u hu
  · have := q10 f hf
    rw [e 111 _ (by decide) (by decide), e 111 _ (by decide) (by decide), e 112 _ (by decide) (by decide)]
    refine ⟨this.1, this.2.1, this.2.2.1, ⟨fun k h1 h2 => ?_, fun j hj => ?_⟩, this.2.2.2.2⟩
    · rw [e (fs k) _ (by unfold fs; split <;> decide) (by unfold fs; split <;> decide)]; exact this.2.2.2.1.1 k h1 h2
    · rw [e 118 _ (by decide) (by decide)]; exact this.2.2.2.1.2 j hj
theorem CI.step {n : Nat} {Z : HS} {F : FT} {g : GN} {A : FT} (q : CI n Z F g A) (h : n < 512) : CI (n + 1) Z F g A := by
  obtain ⟨q1, q2, q3, q4, q5, q6, q7⟩ := q
  unfold Zbd at q7
  exact ⟨q1, q2, q3, q4, q5, q6, by unfold Zbd; omega⟩
theorem CI.wM {n : Nat} {Z : HS} {F F' : FT} {g : GN} {A : FT} (q : CI n Z F g A) : CI n (wM Z F') F g A := (AG.wM Z F').CI q q.2.2.2.2.2.1
/-- what a call's end says of the state -/
def Nx (P : HS → FT → Prop) (_ Z' : HS) (F' : FT) : Prop := P Z' F'
/-- what a call that changes leaves -/
def PN (n : Nat) (Z : HS) : HS → FT → Prop := fun Z' F' => rF Z' = rF Z ∧ ∃ (g : GN) (A : FT), CI (n + 1) Z' F' g A
def QVo (P : HS → FT → Prop) (Z : HS) (F' : FT) (b : Int32) : Option Value → HS → Prop := fun r Z' => r = some (.int b) ∧ F' 25 0 = nI 0 ∧ Nx P Z Z' F'
def QXo (P : HS → FT → Prop) (Z : HS) (F' : FT) (es : List String) : String → HS → Prop := fun E Z' => ∃ i, es[i]? = some E ∧ F' 25 0 = nI (i + 1) ∧ Nx P Z Z' F'
theorem Nx.same {n : Nat} {Z : HS} {F F' : FT} {g : GN} {A : FT} (h : CI n Z F g A) (hn : n < 512) (q : FQ F F') : Nx (PN n Z) Z Z F' := ⟨rfl, g, A, (q.CI h).step hn⟩
theorem rF_sI {Z : HS} {c k a : Nat} {v : Int32} (h : c ≠ 9) : rF (sI Z c k a v) = rF Z := by
  funext k' j
  unfold rF
  split
  · exact if_neg (fun g => h g.1.symm)
  · rfl
theorem rF_sA {Z : HS} {a i : Nat} {v : Int32} (h : a < 1900000) : rF (sA Z a i v) = rF Z := by
  funext k' j
  unfold rF
  split
  · rfl
  · exact if_neg (fun g => by omega)
theorem rF_sR {Z : HS} {c k a : Nat} {v : Option Nat} : rF (sR Z c k a v) = rF Z := rfl
theorem rF_sP {Z : HS} {a i : Nat} {v : Option Nat} : rF (sP Z a i v) = rF Z := rfl
theorem rF_nX {Z : HS} {q kd n : Nat} {f : Nat → Int32} (h : q < 1900000) (h2 : q ≠ 900000) : rF (nX Z q kd n f) = rF Z := by
  funext k' j
  unfold rF
  split
  · exact if_neg (fun g => h2 g.symm)
  · exact congrFun (va_up_ne _ _ (show 1900000 + k' ≠ q by omega)) j
theorem rF_wF {f p e : Nat} {Z : HS} {D : FT} (h : e < 1900000) : rF (wF f p e Z D) = rF Z := by
  funext k' j
  unfold rF
  split
  · exact wF_Ic (Or.inl (by decide))
  · exact wF_Ax (by omega)
theorem rF_wB {c q b : Nat} {Z : HS} {A : FT} (h : b + 123 < 1900000) (hc : c ≠ 9) : rF (wB c q b Z A) = rF Z := by
  funext k' j
  unfold rF
  split
  · exact if_neg (fun g => hc g.1.symm)
  · exact if_neg (fun g => by omega)
