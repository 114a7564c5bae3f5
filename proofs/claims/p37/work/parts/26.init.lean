-- ===== the model: its beginning =====
theorem xK_sR (X : HS) (c k a : Nat) (v : Option Nat) (b : Nat) : xK (sR X c k a v) b = xK X b := rfl
theorem xK_sI (X : HS) (c k a : Nat) (v : Int32) (b : Nat) : xK (sI X c k a v) b = xK X b := rfl
theorem xK_nA {X : HS} {q kd n a : Nat} {f : Nat → Int32} (h : a ≠ q) : xK (nA X q kd n f) a = xK X a := va_up_ne _ _ h
theorem xK_nAs {X : HS} {q kd n : Nat} {f : Nat → Int32} : xK (nA X q kd n f) q = kd := va_up_self _ _ _
