section RW
variable {Γ : GTy} {μ : MTy} {R : Room} {Z : List Frame → Array Value → State → State → Prop} {k : Nat × Nat} {pc : Nat} {L : List (Option Value)} {st : List Value} {X : HS}
theorem J_iconst {n : Int} {v : Int32} (hd : decode (mC μ) pc = .ok (.iconst n, 1)) (hv : Int32.ofInt n = v) (kk : J Γ μ R Z k (pc + 1) L (.int v :: st) X) : J Γ μ R Z k pc L st X :=
  fun p e s m args below meth c H locs ls C S P Lr => lv_iconst C.1 C.2.1 hd hv (kk p e s m args below meth c H locs ls C S P Lr)
theorem J_bipush {n : Int} {v : Int32} (hd : decode (mC μ) pc = .ok (.bipush n, 2)) (hv : (Int8.ofInt n).toInt32 = v) (kk : J Γ μ R Z k (pc + 2) L (.int v :: st) X) : J Γ μ R Z k pc L st X :=
  fun p e s m args below meth c H locs ls C S P Lr => lv_bipush C.1 C.2.1 hd hv (kk p e s m args below meth c H locs ls C S P Lr)
theorem J_sipush {n : Int} {v : Int32} (hd : decode (mC μ) pc = .ok (.sipush n, 3)) (hv : (Int16.ofInt n).toInt32 = v) (kk : J Γ μ R Z k (pc + 3) L (.int v :: st) X) : J Γ μ R Z k pc L st X :=
  fun p e s m args below meth c H locs ls C S P Lr => lv_sipush C.1 C.2.1 hd hv (kk p e s m args below meth c H locs ls C S P Lr)
theorem J_lconst {n : Fin 2} {v : Int64} (hd : decode (mC μ) pc = .ok (.lconst n, 1)) (hv : Int64.ofNat (n : Nat) = v) (kk : J Γ μ R Z k (pc + 1) L (.long v :: st) X) : J Γ μ R Z k pc L st X :=
  fun p e s m args below meth c H locs ls C S P Lr => lv_lconst C.1 C.2.1 hd hv (kk p e s m args below meth c H locs ls C S P Lr)
theorem J_null (hd : decode (mC μ) pc = .ok (.aconst_null, 1)) (kk : J Γ μ R Z k (pc + 1) L (.null :: st) X) : J Γ μ R Z k pc L st X :=
  fun p e s m args below meth c H locs ls C S P Lr => lv_null C.1 C.2.1 hd (kk p e s m args below meth c H locs ls C S P Lr)
theorem J_iload_n {n : Fin 4} {x : Int32} (hd : decode (mC μ) pc = .ok (.iload_n n, 1)) (hl : L[(n : Nat)]? = some (some (.int x))) (kk : J Γ μ R Z k (pc + 1) L (.int x :: st) X) : J Γ μ R Z k pc L st X :=
  fun p e s m args below meth c H locs ls C S P Lr => lv_iload_n C.1 C.2.1 hd rfl (Lr.2.2 _ _ hl).1 (kk p e s m args below meth c H locs ls C S P Lr)
theorem J_iload {i : Nat} {x : Int32} (hd : decode (mC μ) pc = .ok (.iload i, 2)) (hl : L[i]? = some (some (.int x))) (kk : J Γ μ R Z k (pc + 2) L (.int x :: st) X) : J Γ μ R Z k pc L st X :=
  fun p e s m args below meth c H locs ls C S P Lr => lv_iload C.1 C.2.1 hd (Lr.2.2 _ _ hl).1 (kk p e s m args below meth c H locs ls C S P Lr)
theorem J_aload_n {n : Fin 4} {x : Nat} (hd : decode (mC μ) pc = .ok (.aload_n n, 1)) (hl : L[(n : Nat)]? = some (some (.ref x))) (kk : J Γ μ R Z k (pc + 1) L (.ref x :: st) X) : J Γ μ R Z k pc L st X :=
  fun p e s m args below meth c H locs ls C S P Lr => lv_aload_n C.1 C.2.1 hd rfl (Lr.2.2 _ _ hl).1 (kk p e s m args below meth c H locs ls C S P Lr)
theorem J_aload {i : Nat} {x : Nat} (hd : decode (mC μ) pc = .ok (.aload i, 2)) (hl : L[i]? = some (some (.ref x))) (kk : J Γ μ R Z k (pc + 2) L (.ref x :: st) X) : J Γ μ R Z k pc L st X :=
  fun p e s m args below meth c H locs ls C S P Lr => lv_aload C.1 C.2.1 hd (Lr.2.2 _ _ hl).1 (kk p e s m args below meth c H locs ls C S P Lr)
theorem J_aload_nN {n : Fin 4} (hd : decode (mC μ) pc = .ok (.aload_n n, 1)) (hl : L[(n : Nat)]? = some (some .null)) (kk : J Γ μ R Z k (pc + 1) L (.null :: st) X) : J Γ μ R Z k pc L st X :=
  fun p e s m args below meth c H locs ls C S P Lr => lv_aload_nN C.1 C.2.1 hd rfl (Lr.2.2 _ _ hl).1 (kk p e s m args below meth c H locs ls C S P Lr)
theorem J_aloadN {i : Nat} (hd : decode (mC μ) pc = .ok (.aload i, 2)) (hl : L[i]? = some (some .null)) (kk : J Γ μ R Z k (pc + 2) L (.null :: st) X) : J Γ μ R Z k pc L st X :=
  fun p e s m args below meth c H locs ls C S P Lr => lv_aloadN C.1 C.2.1 hd (Lr.2.2 _ _ hl).1 (kk p e s m args below meth c H locs ls C S P Lr)
theorem J_istore_n {n : Fin 4} {x : Int32} (hd : decode (mC μ) pc = .ok (.istore_n n, 1)) (hn : (n : Nat) < mL μ) (kk : J Γ μ R Z k (pc + 1) (L.set (n : Nat) (some (.int x))) st X) : J Γ μ R Z k pc L (.int x :: st) X :=
  fun p e s m args below meth c H locs ls C S P Lr => lv_istore_n C.1 C.2.1 hd rfl Lr.has hn rfl (fun ls' h' => kk p e s m args below meth c H locs ls' C S P (Lr.put rfl h'))
theorem J_istore {i : Nat} {x : Int32} (hd : decode (mC μ) pc = .ok (.istore i, 2)) (hn : i < mL μ) (kk : J Γ μ R Z k (pc + 2) (L.set i (some (.int x))) st X) : J Γ μ R Z k pc L (.int x :: st) X :=
  fun p e s m args below meth c H locs ls C S P Lr => lv_istore C.1 C.2.1 hd Lr.has hn rfl (fun ls' h' => kk p e s m args below meth c H locs ls' C S P (Lr.put rfl h'))
theorem J_astore_n {n : Fin 4} {x : Nat} (hd : decode (mC μ) pc = .ok (.astore_n n, 1)) (hn : (n : Nat) < mL μ) (kk : J Γ μ R Z k (pc + 1) (L.set (n : Nat) (some (.ref x))) st X) : J Γ μ R Z k pc L (.ref x :: st) X :=
  fun p e s m args below meth c H locs ls C S P Lr => lv_astore_n C.1 C.2.1 hd rfl Lr.has hn rfl (fun ls' h' => kk p e s m args below meth c H locs ls' C S P (Lr.put rfl h'))
theorem J_astore {i : Nat} {x : Nat} (hd : decode (mC μ) pc = .ok (.astore i, 2)) (hn : i < mL μ) (kk : J Γ μ R Z k (pc + 2) (L.set i (some (.ref x))) st X) : J Γ μ R Z k pc L (.ref x :: st) X :=
  fun p e s m args below meth c H locs ls C S P Lr => lv_astore C.1 C.2.1 hd Lr.has hn rfl (fun ls' h' => kk p e s m args below meth c H locs ls' C S P (Lr.put rfl h'))
theorem J_astore_nN {n : Fin 4} (hd : decode (mC μ) pc = .ok (.astore_n n, 1)) (hn : (n : Nat) < mL μ) (kk : J Γ μ R Z k (pc + 1) (L.set (n : Nat) (some (.null))) st X) : J Γ μ R Z k pc L (.null :: st) X :=
  fun p e s m args below meth c H locs ls C S P Lr => lv_astore_nN C.1 C.2.1 hd rfl Lr.has hn rfl (fun ls' h' => kk p e s m args below meth c H locs ls' C S P (Lr.put rfl h'))
theorem J_astoreN {i : Nat} (hd : decode (mC μ) pc = .ok (.astore i, 2)) (hn : i < mL μ) (kk : J Γ μ R Z k (pc + 2) (L.set i (some (.null))) st X) : J Γ μ R Z k pc L (.null :: st) X :=
  fun p e s m args below meth c H locs ls C S P Lr => lv_astoreN C.1 C.2.1 hd Lr.has hn rfl (fun ls' h' => kk p e s m args below meth c H locs ls' C S P (Lr.put rfl h'))
theorem J_iinc {i : Nat} {n : Int} {x v : Int32} (hd : decode (mC μ) pc = .ok (.iinc i n, 3)) (hl : L[i]? = some (some (.int x))) (hv : x + Int32.ofInt n = v) (hn : i < mL μ) (kk : J Γ μ R Z k (pc + 3) (L.set i (some (.int v))) st X) : J Γ μ R Z k pc L st X := by
  intro p e s m args below meth c H locs ls C S P Lr
  obtain ⟨j, hj⟩ := List.getElem?_of_mem (lp_mem (q := (i, .int x)).mpr hl)
  exact lv_iinc C.1 C.2.1 hd Lr.has hj hv hn rfl (fun ls' h' => kk p e s m args below meth c H locs ls' C S P (Lr.put rfl h'))
theorem J_iadd {x y : Int32} (hd : decode (mC μ) pc = .ok (.iadd, 1)) (kk : J Γ μ R Z k (pc + 1) L (.int (x + y) :: st) X) : J Γ μ R Z k pc L (.int y :: .int x :: st) X :=
  fun p e s m args below meth c H locs ls C S P Lr => lv_iadd C.1 C.2.1 hd (kk p e s m args below meth c H locs ls C S P Lr)
theorem J_isub {x y : Int32} (hd : decode (mC μ) pc = .ok (.isub, 1)) (kk : J Γ μ R Z k (pc + 1) L (.int (x - y) :: st) X) : J Γ μ R Z k pc L (.int y :: .int x :: st) X :=
  fun p e s m args below meth c H locs ls C S P Lr => lv_isub C.1 C.2.1 hd (kk p e s m args below meth c H locs ls C S P Lr)
theorem J_imul {x y : Int32} (hd : decode (mC μ) pc = .ok (.imul, 1)) (kk : J Γ μ R Z k (pc + 1) L (.int (x * y) :: st) X) : J Γ μ R Z k pc L (.int y :: .int x :: st) X :=
  fun p e s m args below meth c H locs ls C S P Lr => lv_imul C.1 C.2.1 hd (kk p e s m args below meth c H locs ls C S P Lr)
theorem J_iand {x y : Int32} (hd : decode (mC μ) pc = .ok (.iand, 1)) (kk : J Γ μ R Z k (pc + 1) L (.int (x &&& y) :: st) X) : J Γ μ R Z k pc L (.int y :: .int x :: st) X :=
  fun p e s m args below meth c H locs ls C S P Lr => lv_iand C.1 C.2.1 hd (kk p e s m args below meth c H locs ls C S P Lr)
theorem J_ior {x y : Int32} (hd : decode (mC μ) pc = .ok (.ior, 1)) (kk : J Γ μ R Z k (pc + 1) L (.int (x ||| y) :: st) X) : J Γ μ R Z k pc L (.int y :: .int x :: st) X :=
  fun p e s m args below meth c H locs ls C S P Lr => lv_ior C.1 C.2.1 hd (kk p e s m args below meth c H locs ls C S P Lr)
theorem J_ishl {x y : Int32} (hd : decode (mC μ) pc = .ok (.ishl, 1)) (kk : J Γ μ R Z k (pc + 1) L (.int (x <<< (y &&& 31)) :: st) X) : J Γ μ R Z k pc L (.int y :: .int x :: st) X :=
  fun p e s m args below meth c H locs ls C S P Lr => lv_ishl C.1 C.2.1 hd (kk p e s m args below meth c H locs ls C S P Lr)
theorem J_ishr {x y : Int32} (hd : decode (mC μ) pc = .ok (.ishr, 1)) (kk : J Γ μ R Z k (pc + 1) L (.int (x >>> (y &&& 31)) :: st) X) : J Γ μ R Z k pc L (.int y :: .int x :: st) X :=
  fun p e s m args below meth c H locs ls C S P Lr => lv_ishr C.1 C.2.1 hd (kk p e s m args below meth c H locs ls C S P Lr)
theorem J_idiv {x y : Int32} (hd : decode (mC μ) pc = .ok (.idiv, 1)) (hne : ¬ y = 0) (kk : J Γ μ R Z k (pc + 1) L (.int (x / y) :: st) X) : J Γ μ R Z k pc L (.int y :: .int x :: st) X :=
  fun p e s m args below meth c H locs ls C S P Lr => lv_idiv C.1 C.2.1 hd hne (kk p e s m args below meth c H locs ls C S P Lr)
theorem J_irem {x y : Int32} (hd : decode (mC μ) pc = .ok (.irem, 1)) (hne : ¬ y = 0) (kk : J Γ μ R Z k (pc + 1) L (.int (x - x / y * y) :: st) X) : J Γ μ R Z k pc L (.int y :: .int x :: st) X :=
  fun p e s m args below meth c H locs ls C S P Lr => lv_irem C.1 C.2.1 hd hne (kk p e s m args below meth c H locs ls C S P Lr)
theorem J_ineg {x : Int32} (hd : decode (mC μ) pc = .ok (.ineg, 1)) (kk : J Γ μ R Z k (pc + 1) L (.int (-x) :: st) X) : J Γ μ R Z k pc L (.int x :: st) X :=
  fun p e s m args below meth c H locs ls C S P Lr => lv_ineg C.1 C.2.1 hd (kk p e s m args below meth c H locs ls C S P Lr)
theorem J_i2l {x : Int32} (hd : decode (mC μ) pc = .ok (.i2l, 1)) (kk : J Γ μ R Z k (pc + 1) L (.long x.toInt64 :: st) X) : J Γ μ R Z k pc L (.int x :: st) X :=
  fun p e s m args below meth c H locs ls C S P Lr => lv_i2l C.1 C.2.1 hd rfl (kk p e s m args below meth c H locs ls C S P Lr)
theorem J_lcmp {x y : Int64} (hd : decode (mC μ) pc = .ok (.lcmp, 1)) (kk : J Γ μ R Z k (pc + 1) L (.int (lg_cmp x y) :: st) X) : J Γ μ R Z k pc L (.long y :: .long x :: st) X :=
  fun p e s m args below meth c H locs ls C S P Lr => W.lcmp C.1 C.2.1 hd (kk p e s m args below meth c H locs ls C S P Lr)
theorem J_dup {v : Value} (hd : decode (mC μ) pc = .ok (.dup, 1)) (hv : v.category = 1) (kk : J Γ μ R Z k (pc + 1) L (v :: v :: st) X) : J Γ μ R Z k pc L (v :: st) X :=
  fun p e s m args below meth c H locs ls C S P Lr => lv_dup C.1 C.2.1 hd hv (kk p e s m args below meth c H locs ls C S P Lr)
theorem J_dup2 {v u : Value} (hd : decode (mC μ) pc = .ok (.dup2, 1)) (hv : v.category = 1) (hu : u.category = 1) (kk : J Γ μ R Z k (pc + 1) L (v :: u :: v :: u :: st) X) : J Γ μ R Z k pc L (v :: u :: st) X :=
  fun p e s m args below meth c H locs ls C S P Lr => lv_dup2_11 C.1 C.2.1 hd hv hu (kk p e s m args below meth c H locs ls C S P Lr)
theorem J_pop {v : Value} (hd : decode (mC μ) pc = .ok (.pop, 1)) (hv : v.category = 1) (kk : J Γ μ R Z k (pc + 1) L st X) : J Γ μ R Z k pc L (v :: st) X :=
  fun p e s m args below meth c H locs ls C S P Lr => lv_pop C.1 C.2.1 hd hv (kk p e s m args below meth c H locs ls C S P Lr)
theorem J_if_eq {x : Int32} {off : Int} {tgt : Nat} (hd : decode (mC μ) pc = .ok (.ifCond .eq off, 3)) (ht : (pc : Int) + off = (tgt : Int)) (kt : x = 0 → J Γ μ R Z k tgt L st X) (kf : ¬ x = 0 → J Γ μ R Z k (pc + 3) L st X) : J Γ μ R Z k pc L (.int x :: st) X :=
  fun p e s m args below meth c H locs ls C S P Lr => lv_if_eq C.1 C.2.1 hd ht (fun h => kt h p e s m args below meth c H locs ls C S P Lr) (fun h => kf h p e s m args below meth c H locs ls C S P Lr)
theorem J_icmp_eq {x y : Int32} {off : Int} {tgt : Nat} (hd : decode (mC μ) pc = .ok (.if_icmp .eq off, 3)) (ht : (pc : Int) + off = (tgt : Int)) (kt : x = y → J Γ μ R Z k tgt L st X) (kf : ¬ x = y → J Γ μ R Z k (pc + 3) L st X) : J Γ μ R Z k pc L (.int y :: .int x :: st) X :=
  fun p e s m args below meth c H locs ls C S P Lr => lv_icmp_eq C.1 C.2.1 hd ht (fun h => kt h p e s m args below meth c H locs ls C S P Lr) (fun h => kf h p e s m args below meth c H locs ls C S P Lr)
theorem J_if_ne {x : Int32} {off : Int} {tgt : Nat} (hd : decode (mC μ) pc = .ok (.ifCond .ne off, 3)) (ht : (pc : Int) + off = (tgt : Int)) (kt : ¬ x = 0 → J Γ μ R Z k tgt L st X) (kf : x = 0 → J Γ μ R Z k (pc + 3) L st X) : J Γ μ R Z k pc L (.int x :: st) X :=
  fun p e s m args below meth c H locs ls C S P Lr => lv_if_ne C.1 C.2.1 hd ht (fun h => kt h p e s m args below meth c H locs ls C S P Lr) (fun h => kf h p e s m args below meth c H locs ls C S P Lr)
theorem J_icmp_ne {x y : Int32} {off : Int} {tgt : Nat} (hd : decode (mC μ) pc = .ok (.if_icmp .ne off, 3)) (ht : (pc : Int) + off = (tgt : Int)) (kt : ¬ x = y → J Γ μ R Z k tgt L st X) (kf : x = y → J Γ μ R Z k (pc + 3) L st X) : J Γ μ R Z k pc L (.int y :: .int x :: st) X :=
  fun p e s m args below meth c H locs ls C S P Lr => lv_icmp_ne C.1 C.2.1 hd ht (fun h => kt h p e s m args below meth c H locs ls C S P Lr) (fun h => kf h p e s m args below meth c H locs ls C S P Lr)
theorem J_if_lt {x : Int32} {off : Int} {tgt : Nat} (hd : decode (mC μ) pc = .ok (.ifCond .lt off, 3)) (ht : (pc : Int) + off = (tgt : Int)) (kt : x < 0 → J Γ μ R Z k tgt L st X) (kf : ¬ x < 0 → J Γ μ R Z k (pc + 3) L st X) : J Γ μ R Z k pc L (.int x :: st) X :=
  fun p e s m args below meth c H locs ls C S P Lr => lv_if_lt C.1 C.2.1 hd ht (fun h => kt h p e s m args below meth c H locs ls C S P Lr) (fun h => kf h p e s m args below meth c H locs ls C S P Lr)
theorem J_icmp_lt {x y : Int32} {off : Int} {tgt : Nat} (hd : decode (mC μ) pc = .ok (.if_icmp .lt off, 3)) (ht : (pc : Int) + off = (tgt : Int)) (kt : x < y → J Γ μ R Z k tgt L st X) (kf : ¬ x < y → J Γ μ R Z k (pc + 3) L st X) : J Γ μ R Z k pc L (.int y :: .int x :: st) X :=
  fun p e s m args below meth c H locs ls C S P Lr => lv_icmp_lt C.1 C.2.1 hd ht (fun h => kt h p e s m args below meth c H locs ls C S P Lr) (fun h => kf h p e s m args below meth c H locs ls C S P Lr)
theorem J_if_ge {x : Int32} {off : Int} {tgt : Nat} (hd : decode (mC μ) pc = .ok (.ifCond .ge off, 3)) (ht : (pc : Int) + off = (tgt : Int)) (kt : 0 ≤ x → J Γ μ R Z k tgt L st X) (kf : ¬ 0 ≤ x → J Γ μ R Z k (pc + 3) L st X) : J Γ μ R Z k pc L (.int x :: st) X :=
  fun p e s m args below meth c H locs ls C S P Lr => lv_if_ge C.1 C.2.1 hd ht (fun h => kt h p e s m args below meth c H locs ls C S P Lr) (fun h => kf h p e s m args below meth c H locs ls C S P Lr)
theorem J_icmp_ge {x y : Int32} {off : Int} {tgt : Nat} (hd : decode (mC μ) pc = .ok (.if_icmp .ge off, 3)) (ht : (pc : Int) + off = (tgt : Int)) (kt : y ≤ x → J Γ μ R Z k tgt L st X) (kf : ¬ y ≤ x → J Γ μ R Z k (pc + 3) L st X) : J Γ μ R Z k pc L (.int y :: .int x :: st) X :=
  fun p e s m args below meth c H locs ls C S P Lr => lv_icmp_ge C.1 C.2.1 hd ht (fun h => kt h p e s m args below meth c H locs ls C S P Lr) (fun h => kf h p e s m args below meth c H locs ls C S P Lr)
theorem J_if_gt {x : Int32} {off : Int} {tgt : Nat} (hd : decode (mC μ) pc = .ok (.ifCond .gt off, 3)) (ht : (pc : Int) + off = (tgt : Int)) (kt : 0 < x → J Γ μ R Z k tgt L st X) (kf : ¬ 0 < x → J Γ μ R Z k (pc + 3) L st X) : J Γ μ R Z k pc L (.int x :: st) X :=
  fun p e s m args below meth c H locs ls C S P Lr => lv_if_gt C.1 C.2.1 hd ht (fun h => kt h p e s m args below meth c H locs ls C S P Lr) (fun h => kf h p e s m args below meth c H locs ls C S P Lr)
theorem J_icmp_gt {x y : Int32} {off : Int} {tgt : Nat} (hd : decode (mC μ) pc = .ok (.if_icmp .gt off, 3)) (ht : (pc : Int) + off = (tgt : Int)) (kt : y < x → J Γ μ R Z k tgt L st X) (kf : ¬ y < x → J Γ μ R Z k (pc + 3) L st X) : J Γ μ R Z k pc L (.int y :: .int x :: st) X :=
  fun p e s m args below meth c H locs ls C S P Lr => lv_icmp_gt C.1 C.2.1 hd ht (fun h => kt h p e s m args below meth c H locs ls C S P Lr) (fun h => kf h p e s m args below meth c H locs ls C S P Lr)
theorem J_if_le {x : Int32} {off : Int} {tgt : Nat} (hd : decode (mC μ) pc = .ok (.ifCond .le off, 3)) (ht : (pc : Int) + off = (tgt : Int)) (kt : x ≤ 0 → J Γ μ R Z k tgt L st X) (kf : ¬ x ≤ 0 → J Γ μ R Z k (pc + 3) L st X) : J Γ μ R Z k pc L (.int x :: st) X :=
  fun p e s m args below meth c H locs ls C S P Lr => lv_if_le C.1 C.2.1 hd ht (fun h => kt h p e s m args below meth c H locs ls C S P Lr) (fun h => kf h p e s m args below meth c H locs ls C S P Lr)
theorem J_icmp_le {x y : Int32} {off : Int} {tgt : Nat} (hd : decode (mC μ) pc = .ok (.if_icmp .le off, 3)) (ht : (pc : Int) + off = (tgt : Int)) (kt : x ≤ y → J Γ μ R Z k tgt L st X) (kf : ¬ x ≤ y → J Γ μ R Z k (pc + 3) L st X) : J Γ μ R Z k pc L (.int y :: .int x :: st) X :=
  fun p e s m args below meth c H locs ls C S P Lr => lv_icmp_le C.1 C.2.1 hd ht (fun h => kt h p e s m args below meth c H locs ls C S P Lr) (fun h => kf h p e s m args below meth c H locs ls C S P Lr)
theorem J_goto {off : Int} {tgt : Nat} (hd : decode (mC μ) pc = .ok (.goto off, 3)) (ht : (pc : Int) + off = (tgt : Int)) (kk : J Γ μ R Z k tgt L st X) : J Γ μ R Z k pc L st X :=
  fun p e s m args below meth c H locs ls C S P Lr => lv_goto C.1 C.2.1 hd ht (kk p e s m args below meth c H locs ls C S P Lr)
theorem J_ifnull_r {off : Int} {x : Nat} (hd : decode (mC μ) pc = .ok (.ifnull off, 3)) (kk : J Γ μ R Z k (pc + 3) L st X) : J Γ μ R Z k pc L (.ref x :: st) X :=
  fun p e s m args below meth c H locs ls C S P Lr => lv_ifnull C.1 C.2.1 hd (kk p e s m args below meth c H locs ls C S P Lr)
theorem J_ifnull_n {off : Int} {tgt : Nat} (hd : decode (mC μ) pc = .ok (.ifnull off, 3)) (ht : (pc : Int) + off = (tgt : Int)) (kk : J Γ μ R Z k tgt L st X) : J Γ μ R Z k pc L (.null :: st) X :=
  fun p e s m args below meth c H locs ls C S P Lr => lv_ifnullN C.1 C.2.1 hd ht (kk p e s m args below meth c H locs ls C S P Lr)
theorem J_ifnonnull_r {off : Int} {tgt : Nat} {x : Nat} (hd : decode (mC μ) pc = .ok (.ifnonnull off, 3)) (ht : (pc : Int) + off = (tgt : Int)) (kk : J Γ μ R Z k tgt L st X) : J Γ μ R Z k pc L (.ref x :: st) X :=
  fun p e s m args below meth c H locs ls C S P Lr => lv_ifnonnull C.1 C.2.1 hd ht (kk p e s m args below meth c H locs ls C S P Lr)
theorem J_ifnonnull_n {off : Int} (hd : decode (mC μ) pc = .ok (.ifnonnull off, 3)) (kk : J Γ μ R Z k (pc + 3) L st X) : J Γ μ R Z k pc L (.null :: st) X :=
  fun p e s m args below meth c H locs ls C S P Lr => lv_ifnonnullN C.1 C.2.1 hd (kk p e s m args below meth c H locs ls C S P Lr)
theorem J_tableIn {dflt lo hi : Int} {offs : Array Int} {len : Nat} {x : Int32} {off : Int} {tgt : Nat} (hd : decode (mC μ) pc = .ok (.tableswitch dflt lo hi offs, len)) (h1 : ¬ x.toInt < lo) (h2 : ¬ hi < x.toInt) (ho : offs[(x.toInt - lo).toNat]? = some off) (ht : (pc : Int) + off = (tgt : Int)) (kk : J Γ μ R Z k tgt L st X) : J Γ μ R Z k pc L (.int x :: st) X :=
  fun p e s m args below meth c H locs ls C S P Lr => lv_tableIn C.1 C.2.1 hd h1 h2 ho ht (kk p e s m args below meth c H locs ls C S P Lr)
theorem J_tableOut {dflt lo hi : Int} {offs : Array Int} {len : Nat} {x : Int32} {tgt : Nat} (hd : decode (mC μ) pc = .ok (.tableswitch dflt lo hi offs, len)) (h : x.toInt < lo ∨ hi < x.toInt) (ht : (pc : Int) + dflt = (tgt : Int)) (kk : J Γ μ R Z k tgt L st X) : J Γ μ R Z k pc L (.int x :: st) X :=
  fun p e s m args below meth c H locs ls C S P Lr => lv_tableOut C.1 C.2.1 hd h ht (kk p e s m args below meth c H locs ls C S P Lr)
end RW
