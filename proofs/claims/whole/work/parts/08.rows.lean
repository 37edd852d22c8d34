section TROWS
variable {M : MD} {d pc : Nat} {lo : List (Option Value)} {st : List Value} {S : Nat → Nat → Int32} {L : Nat → Nat → Int64} {R : Nat × Nat × Nat} {σ : SG} {Q : Option Value → SG → Prop}
theorem T_iconst {n : Int} {v : Int32} (hd : decode M.2.1 pc = .ok (.iconst n, 1)) (hv : Int32.ofInt n = v) (k : TT M d (pc + 1) lo (.int v :: st) σ Q) : TT M d pc lo st σ Q := by
  intro l p e s m args below meth c G ad cI cJ cO C H locs ls hP hS hl
  exact lv_iconst C.1 C.2.1 hd hv (k l p e s m args below meth c G ad cI cJ cO C H locs ls hP hS hl)
theorem T_bipush {n : Int} {v : Int32} (hd : decode M.2.1 pc = .ok (.bipush n, 2)) (hv : (Int8.ofInt n).toInt32 = v) (k : TT M d (pc + 2) lo (.int v :: st) σ Q) : TT M d pc lo st σ Q := by
  intro l p e s m args below meth c G ad cI cJ cO C H locs ls hP hS hl
  exact lv_bipush C.1 C.2.1 hd hv (k l p e s m args below meth c G ad cI cJ cO C H locs ls hP hS hl)
theorem T_sipush {n : Int} {v : Int32} (hd : decode M.2.1 pc = .ok (.sipush n, 3)) (hv : (Int16.ofInt n).toInt32 = v) (k : TT M d (pc + 3) lo (.int v :: st) σ Q) : TT M d pc lo st σ Q := by
  intro l p e s m args below meth c G ad cI cJ cO C H locs ls hP hS hl
  exact lv_sipush C.1 C.2.1 hd hv (k l p e s m args below meth c G ad cI cJ cO C H locs ls hP hS hl)
theorem T_lconst {n : Fin 2} {v : Int64} (hd : decode M.2.1 pc = .ok (.lconst n, 1)) (hv : Int64.ofNat (n : Nat) = v) (k : TT M d (pc + 1) lo (.long v :: st) σ Q) : TT M d pc lo st σ Q := by
  intro l p e s m args below meth c G ad cI cJ cO C H locs ls hP hS hl
  exact lv_lconst C.1 C.2.1 hd hv (k l p e s m args below meth c G ad cI cJ cO C H locs ls hP hS hl)
theorem T_ldc {i : Nat} {v : Int32} (hc : Cond.constant M.1.cls i v ∈ lU) (hd : decode M.2.1 pc = .ok (.ldc i, 2)) (k : TT M d (pc + 2) lo (.int v :: st) σ Q) : TT M d pc lo st σ Q := by
  intro l p e s m args below meth c G ad cI cJ cO C H locs ls hP hS hl
  exact lv_ldc C.1 C.2.1 C.2.2.2.1 (C.2.2.2.2.1 _ hc) hd (k l p e s m args below meth c G ad cI cJ cO C H locs ls hP hS hl)
theorem T_ldcw {i : Nat} {v : Int32} (hc : Cond.constant M.1.cls i v ∈ lU) (hd : decode M.2.1 pc = .ok (.ldc_w i, 3)) (k : TT M d (pc + 3) lo (.int v :: st) σ Q) : TT M d pc lo st σ Q := by
  intro l p e s m args below meth c G ad cI cJ cO C H locs ls hP hS hl
  exact lv_ldcw C.1 C.2.1 C.2.2.2.1 (C.2.2.2.2.1 _ hc) hd (k l p e s m args below meth c G ad cI cJ cO C H locs ls hP hS hl)
theorem T_ldc2 {i : Nat} {v : Int64} (hc : Cond.constantLong M.1.cls i v ∈ lU) (hd : decode M.2.1 pc = .ok (.ldc2_w i, 3)) (k : TT M d (pc + 3) lo (.long v :: st) σ Q) : TT M d pc lo st σ Q := by
  intro l p e s m args below meth c G ad cI cJ cO C H locs ls hP hS hl
  exact lv_ldc2 C.1 C.2.1 C.2.2.2.1 (C.2.2.2.2.1 _ hc) hd (k l p e s m args below meth c G ad cI cJ cO C H locs ls hP hS hl)
theorem T_iadd {x y : Int32} (hd : decode M.2.1 pc = .ok (.iadd, 1))  (k : TT M d (pc + 1) lo (.int (x + y) :: st) σ Q) : TT M d pc lo (.int y :: .int x :: st) σ Q := by
  intro l p e s m args below meth c G ad cI cJ cO C H locs ls hP hS hl
  exact lv_iadd C.1 C.2.1 hd (k l p e s m args below meth c G ad cI cJ cO C H locs ls hP hS hl)
theorem T_isub {x y : Int32} (hd : decode M.2.1 pc = .ok (.isub, 1))  (k : TT M d (pc + 1) lo (.int (x - y) :: st) σ Q) : TT M d pc lo (.int y :: .int x :: st) σ Q := by
  intro l p e s m args below meth c G ad cI cJ cO C H locs ls hP hS hl
  exact lv_isub C.1 C.2.1 hd (k l p e s m args below meth c G ad cI cJ cO C H locs ls hP hS hl)
theorem T_imul {x y : Int32} (hd : decode M.2.1 pc = .ok (.imul, 1))  (k : TT M d (pc + 1) lo (.int (x * y) :: st) σ Q) : TT M d pc lo (.int y :: .int x :: st) σ Q := by
  intro l p e s m args below meth c G ad cI cJ cO C H locs ls hP hS hl
  exact lv_imul C.1 C.2.1 hd (k l p e s m args below meth c G ad cI cJ cO C H locs ls hP hS hl)
theorem T_iand {x y : Int32} (hd : decode M.2.1 pc = .ok (.iand, 1))  (k : TT M d (pc + 1) lo (.int (x &&& y) :: st) σ Q) : TT M d pc lo (.int y :: .int x :: st) σ Q := by
  intro l p e s m args below meth c G ad cI cJ cO C H locs ls hP hS hl
  exact lv_iand C.1 C.2.1 hd (k l p e s m args below meth c G ad cI cJ cO C H locs ls hP hS hl)
theorem T_ior {x y : Int32} (hd : decode M.2.1 pc = .ok (.ior, 1))  (k : TT M d (pc + 1) lo (.int (x ||| y) :: st) σ Q) : TT M d pc lo (.int y :: .int x :: st) σ Q := by
  intro l p e s m args below meth c G ad cI cJ cO C H locs ls hP hS hl
  exact lv_ior C.1 C.2.1 hd (k l p e s m args below meth c G ad cI cJ cO C H locs ls hP hS hl)
theorem T_ixor {x y : Int32} (hd : decode M.2.1 pc = .ok (.ixor, 1))  (k : TT M d (pc + 1) lo (.int (x ^^^ y) :: st) σ Q) : TT M d pc lo (.int y :: .int x :: st) σ Q := by
  intro l p e s m args below meth c G ad cI cJ cO C H locs ls hP hS hl
  exact lv_ixor C.1 C.2.1 hd (k l p e s m args below meth c G ad cI cJ cO C H locs ls hP hS hl)
theorem T_ishl {x y : Int32} (hd : decode M.2.1 pc = .ok (.ishl, 1))  (k : TT M d (pc + 1) lo (.int (x <<< (y &&& 31)) :: st) σ Q) : TT M d pc lo (.int y :: .int x :: st) σ Q := by
  intro l p e s m args below meth c G ad cI cJ cO C H locs ls hP hS hl
  exact lv_ishl C.1 C.2.1 hd (k l p e s m args below meth c G ad cI cJ cO C H locs ls hP hS hl)
theorem T_ishr {x y : Int32} (hd : decode M.2.1 pc = .ok (.ishr, 1))  (k : TT M d (pc + 1) lo (.int (x >>> (y &&& 31)) :: st) σ Q) : TT M d pc lo (.int y :: .int x :: st) σ Q := by
  intro l p e s m args below meth c G ad cI cJ cO C H locs ls hP hS hl
  exact lv_ishr C.1 C.2.1 hd (k l p e s m args below meth c G ad cI cJ cO C H locs ls hP hS hl)
theorem T_iushr {x y : Int32} (hd : decode M.2.1 pc = .ok (.iushr, 1))  (k : TT M d (pc + 1) lo (.int ((x.toUInt32 >>> (y.toUInt32 &&& Int32.toUInt32 31)).toInt32) :: st) σ Q) : TT M d pc lo (.int y :: .int x :: st) σ Q := by
  intro l p e s m args below meth c G ad cI cJ cO C H locs ls hP hS hl
  exact lv_iushr C.1 C.2.1 hd rfl (k l p e s m args below meth c G ad cI cJ cO C H locs ls hP hS hl)
theorem T_idiv {x y : Int32} (hd : decode M.2.1 pc = .ok (.idiv, 1)) (hne : ¬ y = 0) (k : TT M d (pc + 1) lo (.int (x / y) :: st) σ Q) : TT M d pc lo (.int y :: .int x :: st) σ Q := by
  intro l p e s m args below meth c G ad cI cJ cO C H locs ls hP hS hl
  exact lv_idiv C.1 C.2.1 hd hne (k l p e s m args below meth c G ad cI cJ cO C H locs ls hP hS hl)
theorem T_irem {x y : Int32} (hd : decode M.2.1 pc = .ok (.irem, 1)) (hne : ¬ y = 0) (k : TT M d (pc + 1) lo (.int (x - x / y * y) :: st) σ Q) : TT M d pc lo (.int y :: .int x :: st) σ Q := by
  intro l p e s m args below meth c G ad cI cJ cO C H locs ls hP hS hl
  exact lv_irem C.1 C.2.1 hd hne (k l p e s m args below meth c G ad cI cJ cO C H locs ls hP hS hl)
theorem T_ineg {x : Int32} (hd : decode M.2.1 pc = .ok (.ineg, 1))  (k : TT M d (pc + 1) lo (.int (-x) :: st) σ Q) : TT M d pc lo (.int x :: st) σ Q := by
  intro l p e s m args below meth c G ad cI cJ cO C H locs ls hP hS hl
  exact lv_ineg C.1 C.2.1 hd (k l p e s m args below meth c G ad cI cJ cO C H locs ls hP hS hl)
theorem T_ladd {x y : Int64} (hd : decode M.2.1 pc = .ok (.ladd, 1))  (k : TT M d (pc + 1) lo (.long (x + y) :: st) σ Q) : TT M d pc lo (.long y :: .long x :: st) σ Q := by
  intro l p e s m args below meth c G ad cI cJ cO C H locs ls hP hS hl
  exact lv_ladd C.1 C.2.1 hd (k l p e s m args below meth c G ad cI cJ cO C H locs ls hP hS hl)
theorem T_lsub {x y : Int64} (hd : decode M.2.1 pc = .ok (.lsub, 1))  (k : TT M d (pc + 1) lo (.long (x - y) :: st) σ Q) : TT M d pc lo (.long y :: .long x :: st) σ Q := by
  intro l p e s m args below meth c G ad cI cJ cO C H locs ls hP hS hl
  exact lv_lsub C.1 C.2.1 hd (k l p e s m args below meth c G ad cI cJ cO C H locs ls hP hS hl)
theorem T_lmul {x y : Int64} (hd : decode M.2.1 pc = .ok (.lmul, 1))  (k : TT M d (pc + 1) lo (.long (x * y) :: st) σ Q) : TT M d pc lo (.long y :: .long x :: st) σ Q := by
  intro l p e s m args below meth c G ad cI cJ cO C H locs ls hP hS hl
  exact lv_lmul C.1 C.2.1 hd (k l p e s m args below meth c G ad cI cJ cO C H locs ls hP hS hl)
theorem T_ldiv {x y : Int64} (hd : decode M.2.1 pc = .ok (.ldiv, 1)) (hne : ¬ y = 0) (k : TT M d (pc + 1) lo (.long (x / y) :: st) σ Q) : TT M d pc lo (.long y :: .long x :: st) σ Q := by
  intro l p e s m args below meth c G ad cI cJ cO C H locs ls hP hS hl
  exact lv_ldiv C.1 C.2.1 hd hne (k l p e s m args below meth c G ad cI cJ cO C H locs ls hP hS hl)
theorem T_lrem {x y : Int64} (hd : decode M.2.1 pc = .ok (.lrem, 1)) (hne : ¬ y = 0) (k : TT M d (pc + 1) lo (.long (x - x / y * y) :: st) σ Q) : TT M d pc lo (.long y :: .long x :: st) σ Q := by
  intro l p e s m args below meth c G ad cI cJ cO C H locs ls hP hS hl
  exact lv_lrem C.1 C.2.1 hd hne (k l p e s m args below meth c G ad cI cJ cO C H locs ls hP hS hl)
theorem T_lcmp {x y : Int64} (hd : decode M.2.1 pc = .ok (.lcmp, 1))  (k : TT M d (pc + 1) lo (.int (lg_cmp x y) :: st) σ Q) : TT M d pc lo (.long y :: .long x :: st) σ Q := by
  intro l p e s m args below meth c G ad cI cJ cO C H locs ls hP hS hl
  exact W.lcmp C.1 C.2.1 hd (k l p e s m args below meth c G ad cI cJ cO C H locs ls hP hS hl)
theorem T_lshl {x : Int64} {y : Int32} (hd : decode M.2.1 pc = .ok (.lshl, 1))  (k : TT M d (pc + 1) lo (.long (x <<< (y.toInt64 &&& 63)) :: st) σ Q) : TT M d pc lo (.int y :: .long x :: st) σ Q := by
  intro l p e s m args below meth c G ad cI cJ cO C H locs ls hP hS hl
  exact lv_lshl C.1 C.2.1 hd rfl (k l p e s m args below meth c G ad cI cJ cO C H locs ls hP hS hl)
theorem T_i2l {x : Int32} (hd : decode M.2.1 pc = .ok (.i2l, 1))  (k : TT M d (pc + 1) lo (.long x.toInt64 :: st) σ Q) : TT M d pc lo (.int x :: st) σ Q := by
  intro l p e s m args below meth c G ad cI cJ cO C H locs ls hP hS hl
  exact lv_i2l C.1 C.2.1 hd rfl (k l p e s m args below meth c G ad cI cJ cO C H locs ls hP hS hl)
theorem T_i2b {x : Int32} (hd : decode M.2.1 pc = .ok (.i2b, 1))  (k : TT M d (pc + 1) lo (.int x.toInt8.toInt32 :: st) σ Q) : TT M d pc lo (.int x :: st) σ Q := by
  intro l p e s m args below meth c G ad cI cJ cO C H locs ls hP hS hl
  exact lv_i2b C.1 C.2.1 hd rfl (k l p e s m args below meth c G ad cI cJ cO C H locs ls hP hS hl)
theorem T_i2s {x : Int32} (hd : decode M.2.1 pc = .ok (.i2s, 1))  (k : TT M d (pc + 1) lo (.int x.toInt16.toInt32 :: st) σ Q) : TT M d pc lo (.int x :: st) σ Q := by
  intro l p e s m args below meth c G ad cI cJ cO C H locs ls hP hS hl
  exact lv_i2s C.1 C.2.1 hd rfl (k l p e s m args below meth c G ad cI cJ cO C H locs ls hP hS hl)
theorem T_dup {a : Value} (hd : decode M.2.1 pc = .ok (.dup, 1)) (ha : a.category = 1) (k : TT M d (pc + 1) lo (a :: a :: st) σ Q) : TT M d pc lo (a :: st) σ Q := by
  intro l p e s m args below meth c G ad cI cJ cO C H locs ls hP hS hl
  exact lv_dup C.1 C.2.1 hd (by rw [cv_cat]; exact ha) (k l p e s m args below meth c G ad cI cJ cO C H locs ls hP hS hl)
theorem T_dup2 {a b : Value} (hd : decode M.2.1 pc = .ok (.dup2, 1)) (ha : a.category = 1) (hb : b.category = 1) (k : TT M d (pc + 1) lo (a :: b :: a :: b :: st) σ Q) : TT M d pc lo (a :: b :: st) σ Q := by
  intro l p e s m args below meth c G ad cI cJ cO C H locs ls hP hS hl
  exact lv_dup2_11 C.1 C.2.1 hd (by rw [cv_cat]; exact ha) (by rw [cv_cat]; exact hb) (k l p e s m args below meth c G ad cI cJ cO C H locs ls hP hS hl)
theorem T_pop {a : Value} (hd : decode M.2.1 pc = .ok (.pop, 1)) (ha : a.category = 1) (k : TT M d (pc + 1) lo (st) σ Q) : TT M d pc lo (a :: st) σ Q := by
  intro l p e s m args below meth c G ad cI cJ cO C H locs ls hP hS hl
  exact lv_pop C.1 C.2.1 hd (by rw [cv_cat]; exact ha) (k l p e s m args below meth c G ad cI cJ cO C H locs ls hP hS hl)
theorem T_goto {off : Int} {tgt : Nat} (hd : decode M.2.1 pc = .ok (.goto off, 3)) (ht : (pc : Int) + off = (tgt : Int)) (k : TT M d tgt lo st σ Q) : TT M d pc lo st σ Q := by
  intro l p e s m args below meth c G ad cI cJ cO C H locs ls hP hS hl
  exact lv_goto C.1 C.2.1 hd ht (k l p e s m args below meth c G ad cI cJ cO C H locs ls hP hS hl)
theorem T_ifeq {x : Int32} {off : Int} {tgt : Nat} (hd : decode M.2.1 pc = .ok (.ifCond .eq off, 3)) (ht : (pc : Int) + off = (tgt : Int)) (kt : x = 0 → TT M d tgt lo st σ Q) (kf : ¬ x = 0 → TT M d (pc + 3) lo st σ Q) : TT M d pc lo (.int x :: st) σ Q := by
  intro l p e s m args below meth c G ad cI cJ cO C H locs ls hP hS hl
  exact lv_if_eq C.1 C.2.1 hd ht (fun h => kt h l p e s m args below meth c G ad cI cJ cO C H locs ls hP hS hl) (fun h => kf h l p e s m args below meth c G ad cI cJ cO C H locs ls hP hS hl)
theorem T_ifne {x : Int32} {off : Int} {tgt : Nat} (hd : decode M.2.1 pc = .ok (.ifCond .ne off, 3)) (ht : (pc : Int) + off = (tgt : Int)) (kt : ¬ x = 0 → TT M d tgt lo st σ Q) (kf : x = 0 → TT M d (pc + 3) lo st σ Q) : TT M d pc lo (.int x :: st) σ Q := by
  intro l p e s m args below meth c G ad cI cJ cO C H locs ls hP hS hl
  exact lv_if_ne C.1 C.2.1 hd ht (fun h => kt h l p e s m args below meth c G ad cI cJ cO C H locs ls hP hS hl) (fun h => kf h l p e s m args below meth c G ad cI cJ cO C H locs ls hP hS hl)
theorem T_iflt {x : Int32} {off : Int} {tgt : Nat} (hd : decode M.2.1 pc = .ok (.ifCond .lt off, 3)) (ht : (pc : Int) + off = (tgt : Int)) (kt : x < 0 → TT M d tgt lo st σ Q) (kf : ¬ x < 0 → TT M d (pc + 3) lo st σ Q) : TT M d pc lo (.int x :: st) σ Q := by
  intro l p e s m args below meth c G ad cI cJ cO C H locs ls hP hS hl
  exact lv_if_lt C.1 C.2.1 hd ht (fun h => kt h l p e s m args below meth c G ad cI cJ cO C H locs ls hP hS hl) (fun h => kf h l p e s m args below meth c G ad cI cJ cO C H locs ls hP hS hl)
theorem T_ifge {x : Int32} {off : Int} {tgt : Nat} (hd : decode M.2.1 pc = .ok (.ifCond .ge off, 3)) (ht : (pc : Int) + off = (tgt : Int)) (kt : 0 ≤ x → TT M d tgt lo st σ Q) (kf : ¬ 0 ≤ x → TT M d (pc + 3) lo st σ Q) : TT M d pc lo (.int x :: st) σ Q := by
  intro l p e s m args below meth c G ad cI cJ cO C H locs ls hP hS hl
  exact lv_if_ge C.1 C.2.1 hd ht (fun h => kt h l p e s m args below meth c G ad cI cJ cO C H locs ls hP hS hl) (fun h => kf h l p e s m args below meth c G ad cI cJ cO C H locs ls hP hS hl)
theorem T_ifgt {x : Int32} {off : Int} {tgt : Nat} (hd : decode M.2.1 pc = .ok (.ifCond .gt off, 3)) (ht : (pc : Int) + off = (tgt : Int)) (kt : 0 < x → TT M d tgt lo st σ Q) (kf : ¬ 0 < x → TT M d (pc + 3) lo st σ Q) : TT M d pc lo (.int x :: st) σ Q := by
  intro l p e s m args below meth c G ad cI cJ cO C H locs ls hP hS hl
  exact lv_if_gt C.1 C.2.1 hd ht (fun h => kt h l p e s m args below meth c G ad cI cJ cO C H locs ls hP hS hl) (fun h => kf h l p e s m args below meth c G ad cI cJ cO C H locs ls hP hS hl)
theorem T_ifle {x : Int32} {off : Int} {tgt : Nat} (hd : decode M.2.1 pc = .ok (.ifCond .le off, 3)) (ht : (pc : Int) + off = (tgt : Int)) (kt : x ≤ 0 → TT M d tgt lo st σ Q) (kf : ¬ x ≤ 0 → TT M d (pc + 3) lo st σ Q) : TT M d pc lo (.int x :: st) σ Q := by
  intro l p e s m args below meth c G ad cI cJ cO C H locs ls hP hS hl
  exact lv_if_le C.1 C.2.1 hd ht (fun h => kt h l p e s m args below meth c G ad cI cJ cO C H locs ls hP hS hl) (fun h => kf h l p e s m args below meth c G ad cI cJ cO C H locs ls hP hS hl)
theorem T_ceq {x y : Int32} {off : Int} {tgt : Nat} (hd : decode M.2.1 pc = .ok (.if_icmp .eq off, 3)) (ht : (pc : Int) + off = (tgt : Int)) (kt : x = y → TT M d tgt lo st σ Q) (kf : ¬ x = y → TT M d (pc + 3) lo st σ Q) : TT M d pc lo (.int y :: .int x :: st) σ Q := by
  intro l p e s m args below meth c G ad cI cJ cO C H locs ls hP hS hl
  exact lv_icmp_eq C.1 C.2.1 hd ht (fun h => kt h l p e s m args below meth c G ad cI cJ cO C H locs ls hP hS hl) (fun h => kf h l p e s m args below meth c G ad cI cJ cO C H locs ls hP hS hl)
theorem T_cne {x y : Int32} {off : Int} {tgt : Nat} (hd : decode M.2.1 pc = .ok (.if_icmp .ne off, 3)) (ht : (pc : Int) + off = (tgt : Int)) (kt : ¬ x = y → TT M d tgt lo st σ Q) (kf : x = y → TT M d (pc + 3) lo st σ Q) : TT M d pc lo (.int y :: .int x :: st) σ Q := by
  intro l p e s m args below meth c G ad cI cJ cO C H locs ls hP hS hl
  exact lv_icmp_ne C.1 C.2.1 hd ht (fun h => kt h l p e s m args below meth c G ad cI cJ cO C H locs ls hP hS hl) (fun h => kf h l p e s m args below meth c G ad cI cJ cO C H locs ls hP hS hl)
theorem T_clt {x y : Int32} {off : Int} {tgt : Nat} (hd : decode M.2.1 pc = .ok (.if_icmp .lt off, 3)) (ht : (pc : Int) + off = (tgt : Int)) (kt : x < y → TT M d tgt lo st σ Q) (kf : ¬ x < y → TT M d (pc + 3) lo st σ Q) : TT M d pc lo (.int y :: .int x :: st) σ Q := by
  intro l p e s m args below meth c G ad cI cJ cO C H locs ls hP hS hl
  exact lv_icmp_lt C.1 C.2.1 hd ht (fun h => kt h l p e s m args below meth c G ad cI cJ cO C H locs ls hP hS hl) (fun h => kf h l p e s m args below meth c G ad cI cJ cO C H locs ls hP hS hl)
theorem T_cge {x y : Int32} {off : Int} {tgt : Nat} (hd : decode M.2.1 pc = .ok (.if_icmp .ge off, 3)) (ht : (pc : Int) + off = (tgt : Int)) (kt : y ≤ x → TT M d tgt lo st σ Q) (kf : ¬ y ≤ x → TT M d (pc + 3) lo st σ Q) : TT M d pc lo (.int y :: .int x :: st) σ Q := by
  intro l p e s m args below meth c G ad cI cJ cO C H locs ls hP hS hl
  exact lv_icmp_ge C.1 C.2.1 hd ht (fun h => kt h l p e s m args below meth c G ad cI cJ cO C H locs ls hP hS hl) (fun h => kf h l p e s m args below meth c G ad cI cJ cO C H locs ls hP hS hl)
theorem T_cgt {x y : Int32} {off : Int} {tgt : Nat} (hd : decode M.2.1 pc = .ok (.if_icmp .gt off, 3)) (ht : (pc : Int) + off = (tgt : Int)) (kt : y < x → TT M d tgt lo st σ Q) (kf : ¬ y < x → TT M d (pc + 3) lo st σ Q) : TT M d pc lo (.int y :: .int x :: st) σ Q := by
  intro l p e s m args below meth c G ad cI cJ cO C H locs ls hP hS hl
  exact lv_icmp_gt C.1 C.2.1 hd ht (fun h => kt h l p e s m args below meth c G ad cI cJ cO C H locs ls hP hS hl) (fun h => kf h l p e s m args below meth c G ad cI cJ cO C H locs ls hP hS hl)
theorem T_cle {x y : Int32} {off : Int} {tgt : Nat} (hd : decode M.2.1 pc = .ok (.if_icmp .le off, 3)) (ht : (pc : Int) + off = (tgt : Int)) (kt : x ≤ y → TT M d tgt lo st σ Q) (kf : ¬ x ≤ y → TT M d (pc + 3) lo st σ Q) : TT M d pc lo (.int y :: .int x :: st) σ Q := by
  intro l p e s m args below meth c G ad cI cJ cO C H locs ls hP hS hl
  exact lv_icmp_le C.1 C.2.1 hd ht (fun h => kt h l p e s m args below meth c G ad cI cJ cO C H locs ls hP hS hl) (fun h => kf h l p e s m args below meth c G ad cI cJ cO C H locs ls hP hS hl)
theorem T_swIn {dflt a b : Int} {offs : Array Int} {len : Nat} {x : Int32} {off : Int} {tgt : Nat} (hd : decode M.2.1 pc = .ok (.tableswitch dflt a b offs, len)) (h1 : ¬ x.toInt < a) (h2 : ¬ b < x.toInt) (ho : offs[(x.toInt - a).toNat]? = some off) (ht : (pc : Int) + off = (tgt : Int)) (k : TT M d tgt lo st σ Q) : TT M d pc lo (.int x :: st) σ Q := by
  intro l p e s m args below meth c G ad cI cJ cO C H locs ls hP hS hl
  exact lv_tableIn C.1 C.2.1 hd h1 h2 ho ht (k l p e s m args below meth c G ad cI cJ cO C H locs ls hP hS hl)
theorem T_swOut {dflt a b : Int} {offs : Array Int} {len : Nat} {x : Int32} {tgt : Nat} (hd : decode M.2.1 pc = .ok (.tableswitch dflt a b offs, len)) (h : x.toInt < a ∨ b < x.toInt) (ht : (pc : Int) + dflt = (tgt : Int)) (k : TT M d tgt lo st σ Q) : TT M d pc lo (.int x :: st) σ Q := by
  intro l p e s m args below meth c G ad cI cJ cO C H locs ls hP hS hl
  exact lv_tableOut C.1 C.2.1 hd h ht (k l p e s m args below meth c G ad cI cJ cO C H locs ls hP hS hl)
theorem T_look {dflt : Int} {ps : Array (Int × Int)} {len : Nat} {x : Int32} {off : Int} {tgt : Nat} (hd : decode M.2.1 pc = .ok (.lookupswitch dflt ps, len)) (hp : (ps.toList.zip (ps.toList.drop 1)).all (fun (a, next) => a.1 < next.1) = true) (ho : Op.lookupswitch.offset ps.toList dflt x.toInt = off) (ht : (pc : Int) + off = (tgt : Int)) (k : TT M d tgt lo st σ Q) : TT M d pc lo (.int x :: st) σ Q := by
  intro l p e s m args below meth c G ad cI cJ cO C H locs ls hP hS hl
  exact lv_lookup C.1 C.2.1 hd hp ho ht (k l p e s m args below meth c G ad cI cJ cO C H locs ls hP hS hl)
def asc (ad : Nat → Nat) (lo : List (Option Value)) : List (Nat × Value) := (List.range lo.length).filterMap (fun j => (lo.getD j none).map (fun v => (j, cv ad v)))
theorem asc_mem {ad : Nat → Nat} {lo : List (Option Value)} {q : Nat × Value} : q ∈ asc ad lo ↔ ∃ v, lo[q.1]? = some (some v) ∧ q.2 = cv ad v := by
  unfold asc
  rw [List.mem_filterMap]
  constructor
  · rintro ⟨j, hj, h⟩
    have hj := List.mem_range.mp hj
    rw [List.getD_eq_getElem?_getD, List.getElem?_eq_getElem hj] at h
    cases hv : lo[j] with
    | none => simp [hv] at h
    | some v =>
      simp [hv] at h
      subst h
      exact ⟨v, by rw [List.getElem?_eq_getElem hj, hv], rfl⟩
  · rintro ⟨v, h1, h2⟩
    have hj := (List.getElem?_eq_some_iff.mp h1).1
    refine ⟨q.1, List.mem_range.mpr hj, ?_⟩
    rw [List.getD_eq_getElem?_getD, h1]
    show some (q.1, cv ad v) = some q
    rw [← h2]
theorem LH.has {ad : Nat → Nat} {ls : Array Slot} {nL : Nat} (h : LH ad ls nL lo) : lv_has ls nL (asc ad lo) := by
  refine ⟨h.1, h.2.1, fun q hq => ?_⟩
  obtain ⟨v, h1, h2⟩ := asc_mem.mp hq
  rw [h2]; exact h.2.2 _ _ h1
def noL (lo : List (Option Value)) (i : Nat) : Bool := match i with
  | 0 => true
  | j + 1 => match lo[j]? with
    | some (some (.long _)) => false
    | some (some (.double _)) => false
    | _ => true
theorem noL_cat {i j : Nat} {v : Value} (h : noL lo i = true) (hj : j + 1 = i) (hv : lo[j]? = some (some v)) : ¬ v.category = 2 := by
  subst hj
  simp only [noL, hv] at h
  cases v <;> simp_all [Value.category]
theorem LH.set1 {ad : Nat → Nat} {ls : Array Slot} {nL i : Nat} {v : Value} {f : Nat × Value → Bool} (hf : f = fun q => !(q.1 == i) && !(q.1 + 1 == i && q.2.category == 2)) (hn : noL lo i = true) (h : lv_has ls nL ((i, cv ad v) :: (asc ad lo).filter f)) : LH ad ls nL (lo.set i (some v)) := by
  refine ⟨h.1, h.2.1, fun j w hw => ?_⟩
  rw [List.getElem?_set] at hw
  by_cases hij : i = j
  · subst hij
    rw [if_pos rfl] at hw
    split at hw
    · cases hw
      exact h.2.2 (i, cv ad v) List.mem_cons_self
    · cases hw
  · rw [if_neg hij] at hw
    refine h.2.2 (j, cv ad w) (List.mem_cons_of_mem _ (List.mem_filter.mpr ⟨asc_mem.mpr ⟨w, hw, rfl⟩, ?_⟩))
    subst hf
    simp only [Bool.and_eq_true, Bool.not_eq_true', beq_eq_false_iff_ne, Bool.and_eq_false_iff]
    refine ⟨fun e => hij e.symm, ?_⟩
    by_cases h1 : j + 1 = i
    · right; rw [cv_cat]; simpa using noL_cat hn h1 hw
    · left; simpa using h1
theorem LH.set2 {ad : Nat → Nat} {ls : Array Slot} {nL i : Nat} {v : Value} {f : Nat × Value → Bool} (hf : f = fun q => !(q.1 == i) && (!(q.1 == i + 1) && !(q.1 + 1 == i && q.2.category == 2))) (hn : noL lo i = true) (h : lv_has ls nL ((i, cv ad v) :: (asc ad lo).filter f)) : LH ad ls nL ((lo.set i (some v)).set (i + 1) none) := by
  refine ⟨h.1, h.2.1, fun j w hw => ?_⟩
  rw [List.getElem?_set] at hw
  by_cases hij1 : i + 1 = j
  · rw [if_pos hij1] at hw
    split at hw <;> cases hw
  rw [if_neg hij1, List.getElem?_set] at hw
  by_cases hij : i = j
  · subst hij
    rw [if_pos rfl] at hw
    split at hw
    · cases hw
      exact h.2.2 (i, cv ad v) List.mem_cons_self
    · cases hw
  · rw [if_neg hij] at hw
    refine h.2.2 (j, cv ad w) (List.mem_cons_of_mem _ (List.mem_filter.mpr ⟨asc_mem.mpr ⟨w, hw, rfl⟩, ?_⟩))
    subst hf
    simp only [Bool.and_eq_true, Bool.not_eq_true', beq_eq_false_iff_ne, Bool.and_eq_false_iff]
    refine ⟨fun e => hij e.symm, fun e => hij1 e.symm, ?_⟩
    by_cases h1 : j + 1 = i
    · right; rw [cv_cat]; simpa using noL_cat hn h1 hw
    · left; simpa using h1
theorem T_iload_n {n : Fin 4} {i : Nat} {x : Int32} (hd : decode M.2.1 pc = .ok (.iload_n n, 1)) (hi : (n : Nat) = i) (hv : lo[i]? = some (some (.int x))) (k : TT M d (pc + 1) lo (.int x :: st) σ Q) : TT M d pc lo st σ Q := by
  intro l p e s m args below meth c G ad cI cJ cO C H locs ls hP hS hl
  exact lv_iload_n C.1 C.2.1 hd hi (hl.2.2 _ _ hv) (k l p e s m args below meth c G ad cI cJ cO C H locs ls hP hS hl)
theorem T_iload {i : Nat} {x : Int32} (hd : decode M.2.1 pc = .ok (.iload i, 2)) (hv : lo[i]? = some (some (.int x))) (k : TT M d (pc + 2) lo (.int x :: st) σ Q) : TT M d pc lo st σ Q := by
  intro l p e s m args below meth c G ad cI cJ cO C H locs ls hP hS hl
  exact lv_iload C.1 C.2.1 hd (hl.2.2 _ _ hv) (k l p e s m args below meth c G ad cI cJ cO C H locs ls hP hS hl)
theorem T_istore_n {n : Fin 4} {i : Nat} {x : Int32} (hd : decode M.2.1 pc = .ok (.istore_n n, 1)) (hi : (n : Nat) = i) (hn : i < M.2.2.1) (ho : noL lo i = true) (k : TT M d (pc + 1) (lo.set i (some (.int x))) st σ Q) : TT M d pc lo (.int x :: st) σ Q := by
  intro l p e s m args below meth c G ad cI cJ cO C H locs ls hP hS hl
  exact lv_istore_n C.1 C.2.1 hd hi hl.has hn rfl (fun ls hl => k l p e s m args below meth c G ad cI cJ cO C H locs ls hP hS (LH.set1 (v := .int x) rfl ho hl))
theorem T_istore {i : Nat} {x : Int32} (hd : decode M.2.1 pc = .ok (.istore i, 2)) (hn : i < M.2.2.1) (ho : noL lo i = true) (k : TT M d (pc + 2) (lo.set i (some (.int x))) st σ Q) : TT M d pc lo (.int x :: st) σ Q := by
  intro l p e s m args below meth c G ad cI cJ cO C H locs ls hP hS hl
  exact lv_istore C.1 C.2.1 hd hl.has hn rfl (fun ls hl => k l p e s m args below meth c G ad cI cJ cO C H locs ls hP hS (LH.set1 (v := .int x) rfl ho hl))
theorem T_lload_n {n : Fin 4} {i : Nat} {x : Int64} (hd : decode M.2.1 pc = .ok (.lload_n n, 1)) (hi : (n : Nat) = i) (hv : lo[i]? = some (some (.long x))) (k : TT M d (pc + 1) lo (.long x :: st) σ Q) : TT M d pc lo st σ Q := by
  intro l p e s m args below meth c G ad cI cJ cO C H locs ls hP hS hl
  exact lv_lload_n C.1 C.2.1 hd hi (hl.2.2 _ _ hv) (k l p e s m args below meth c G ad cI cJ cO C H locs ls hP hS hl)
theorem T_lload {i : Nat} {x : Int64} (hd : decode M.2.1 pc = .ok (.lload i, 2)) (hv : lo[i]? = some (some (.long x))) (k : TT M d (pc + 2) lo (.long x :: st) σ Q) : TT M d pc lo st σ Q := by
  intro l p e s m args below meth c G ad cI cJ cO C H locs ls hP hS hl
  exact lv_lload C.1 C.2.1 hd (hl.2.2 _ _ hv) (k l p e s m args below meth c G ad cI cJ cO C H locs ls hP hS hl)
theorem T_lstore_n {n : Fin 4} {i : Nat} {x : Int64} (hd : decode M.2.1 pc = .ok (.lstore_n n, 1)) (hi : (n : Nat) = i) (hn : i + 1 < M.2.2.1) (ho : noL lo i = true) (k : TT M d (pc + 1) ((lo.set i (some (.long x))).set (i + 1) none) st σ Q) : TT M d pc lo (.long x :: st) σ Q := by
  intro l p e s m args below meth c G ad cI cJ cO C H locs ls hP hS hl
  exact lv_lstore_n C.1 C.2.1 hd hi hl.has hn rfl (fun ls hl => k l p e s m args below meth c G ad cI cJ cO C H locs ls hP hS (LH.set2 (v := .long x) rfl ho hl))
theorem T_lstore {i : Nat} {x : Int64} (hd : decode M.2.1 pc = .ok (.lstore i, 2)) (hn : i + 1 < M.2.2.1) (ho : noL lo i = true) (k : TT M d (pc + 2) ((lo.set i (some (.long x))).set (i + 1) none) st σ Q) : TT M d pc lo (.long x :: st) σ Q := by
  intro l p e s m args below meth c G ad cI cJ cO C H locs ls hP hS hl
  exact lv_lstore C.1 C.2.1 hd hl.has hn rfl (fun ls hl => k l p e s m args below meth c G ad cI cJ cO C H locs ls hP hS (LH.set2 (v := .long x) rfl ho hl))
theorem T_aload_n {n : Fin 4} {i : Nat} {x : Nat} (hd : decode M.2.1 pc = .ok (.aload_n n, 1)) (hi : (n : Nat) = i) (hv : lo[i]? = some (some (.ref x))) (k : TT M d (pc + 1) lo (.ref x :: st) σ Q) : TT M d pc lo st σ Q := by
  intro l p e s m args below meth c G ad cI cJ cO C H locs ls hP hS hl
  exact lv_aload_n C.1 C.2.1 hd hi (hl.2.2 _ _ hv) (k l p e s m args below meth c G ad cI cJ cO C H locs ls hP hS hl)
theorem T_aload {i : Nat} {x : Nat} (hd : decode M.2.1 pc = .ok (.aload i, 2)) (hv : lo[i]? = some (some (.ref x))) (k : TT M d (pc + 2) lo (.ref x :: st) σ Q) : TT M d pc lo st σ Q := by
  intro l p e s m args below meth c G ad cI cJ cO C H locs ls hP hS hl
  exact lv_aload C.1 C.2.1 hd (hl.2.2 _ _ hv) (k l p e s m args below meth c G ad cI cJ cO C H locs ls hP hS hl)
theorem T_astore_n {n : Fin 4} {i : Nat} {x : Nat} (hd : decode M.2.1 pc = .ok (.astore_n n, 1)) (hi : (n : Nat) = i) (hn : i < M.2.2.1) (ho : noL lo i = true) (k : TT M d (pc + 1) (lo.set i (some (.ref x))) st σ Q) : TT M d pc lo (.ref x :: st) σ Q := by
  intro l p e s m args below meth c G ad cI cJ cO C H locs ls hP hS hl
  exact lv_astore_n C.1 C.2.1 hd hi hl.has hn rfl (fun ls hl => k l p e s m args below meth c G ad cI cJ cO C H locs ls hP hS (LH.set1 (v := .ref x) rfl ho hl))
theorem T_astore {i : Nat} {x : Nat} (hd : decode M.2.1 pc = .ok (.astore i, 2)) (hn : i < M.2.2.1) (ho : noL lo i = true) (k : TT M d (pc + 2) (lo.set i (some (.ref x))) st σ Q) : TT M d pc lo (.ref x :: st) σ Q := by
  intro l p e s m args below meth c G ad cI cJ cO C H locs ls hP hS hl
  exact lv_astore C.1 C.2.1 hd hl.has hn rfl (fun ls hl => k l p e s m args below meth c G ad cI cJ cO C H locs ls hP hS (LH.set1 (v := .ref x) rfl ho hl))
theorem T_iinc {i : Nat} {n : Int} {x : Int32} (hd : decode M.2.1 pc = .ok (.iinc i n, 3)) (hv : lo[i]? = some (some (.int x))) (hn : i < M.2.2.1) (ho : noL lo i = true) (k : TT M d (pc + 3) (lo.set i (some (.int (x + Int32.ofInt n)))) st σ Q) : TT M d pc lo st σ Q := by
  intro l p e s m args below meth c G ad cI cJ cO C H locs ls hP hS hl
  obtain ⟨j, hj⟩ := List.getElem?_of_mem (asc_mem.mpr ⟨_, hv, rfl⟩ : (i, cv ad (.int x)) ∈ asc ad lo)
  exact lv_iinc C.1 C.2.1 hd hl.has hj rfl hn rfl (fun ls hl => k l p e s m args below meth c G ad cI cJ cO C H locs ls hP hS (LH.set1 (v := .int (x + Int32.ofInt n)) rfl ho hl))
end TROWS
section TPAT
variable {M : MD} {d pc : Nat} {lo : List (Option Value)} {st : List Value} {S : Nat → Nat → Int32} {L : Nat → Nat → Int64} {R : Nat × Nat × Nat} {σ : SG} {Q : Option Value → SG → Prop}
variable {t : List (Option Value)}
theorem T_ild0  {x : Int32} (hd : decode M.2.1 pc = .ok (.iload_n 0, 1)) (k : TT M d (pc + 1) (some (.int x) :: t) (.int x :: st) σ Q) : TT M d pc (some (.int x) :: t) st σ Q := T_iload_n hd (i := 0) rfl rfl k
theorem T_ist0 {a0 : Option Value} {x : Int32} (hd : decode M.2.1 pc = .ok (.istore_n 0, 1)) (hn : 0 < M.2.2.1) (ho : noL (a0 :: t) 0 = true) (k : TT M d (pc + 1) (some (.int x) :: t) st σ Q) : TT M d pc (a0 :: t) (.int x :: st) σ Q := T_istore_n hd (i := 0) rfl hn ho k
theorem T_lld0  {x : Int64} (hd : decode M.2.1 pc = .ok (.lload_n 0, 1)) (k : TT M d (pc + 1) (some (.long x) :: t) (.long x :: st) σ Q) : TT M d pc (some (.long x) :: t) st σ Q := T_lload_n hd (i := 0) rfl rfl k
theorem T_lst0 {a0 b : Option Value} {x : Int64} (hd : decode M.2.1 pc = .ok (.lstore_n 0, 1)) (hn : 0 + 1 < M.2.2.1) (ho : noL (a0 :: b :: t) 0 = true) (k : TT M d (pc + 1) (some (.long x) :: none :: t) st σ Q) : TT M d pc (a0 :: b :: t) (.long x :: st) σ Q := T_lstore_n hd (i := 0) rfl hn ho k
theorem T_ald0  {x : Nat} (hd : decode M.2.1 pc = .ok (.aload_n 0, 1)) (k : TT M d (pc + 1) (some (.ref x) :: t) (.ref x :: st) σ Q) : TT M d pc (some (.ref x) :: t) st σ Q := T_aload_n hd (i := 0) rfl rfl k
theorem T_ast0 {a0 : Option Value} {x : Nat} (hd : decode M.2.1 pc = .ok (.astore_n 0, 1)) (hn : 0 < M.2.2.1) (ho : noL (a0 :: t) 0 = true) (k : TT M d (pc + 1) (some (.ref x) :: t) st σ Q) : TT M d pc (a0 :: t) (.ref x :: st) σ Q := T_astore_n hd (i := 0) rfl hn ho k
theorem T_inc0  {x : Int32} {n : Int} (hd : decode M.2.1 pc = .ok (.iinc 0 n, 3)) (hn : 0 < M.2.2.1) (ho : noL (some (.int x) :: t) 0 = true) (k : TT M d (pc + 3) (some (.int (x + Int32.ofInt n)) :: t) st σ Q) : TT M d pc (some (.int x) :: t) st σ Q := T_iinc hd rfl hn ho k
theorem T_ild1 {a0 : Option Value} {x : Int32} (hd : decode M.2.1 pc = .ok (.iload_n 1, 1)) (k : TT M d (pc + 1) (a0 :: some (.int x) :: t) (.int x :: st) σ Q) : TT M d pc (a0 :: some (.int x) :: t) st σ Q := T_iload_n hd (i := 1) rfl rfl k
theorem T_ist1 {a0 a1 : Option Value} {x : Int32} (hd : decode M.2.1 pc = .ok (.istore_n 1, 1)) (hn : 1 < M.2.2.1) (ho : noL (a0 :: a1 :: t) 1 = true) (k : TT M d (pc + 1) (a0 :: some (.int x) :: t) st σ Q) : TT M d pc (a0 :: a1 :: t) (.int x :: st) σ Q := T_istore_n hd (i := 1) rfl hn ho k
theorem T_lld1 {a0 : Option Value} {x : Int64} (hd : decode M.2.1 pc = .ok (.lload_n 1, 1)) (k : TT M d (pc + 1) (a0 :: some (.long x) :: t) (.long x :: st) σ Q) : TT M d pc (a0 :: some (.long x) :: t) st σ Q := T_lload_n hd (i := 1) rfl rfl k
theorem T_lst1 {a0 a1 b : Option Value} {x : Int64} (hd : decode M.2.1 pc = .ok (.lstore_n 1, 1)) (hn : 1 + 1 < M.2.2.1) (ho : noL (a0 :: a1 :: b :: t) 1 = true) (k : TT M d (pc + 1) (a0 :: some (.long x) :: none :: t) st σ Q) : TT M d pc (a0 :: a1 :: b :: t) (.long x :: st) σ Q := T_lstore_n hd (i := 1) rfl hn ho k
theorem T_ald1 {a0 : Option Value} {x : Nat} (hd : decode M.2.1 pc = .ok (.aload_n 1, 1)) (k : TT M d (pc + 1) (a0 :: some (.ref x) :: t) (.ref x :: st) σ Q) : TT M d pc (a0 :: some (.ref x) :: t) st σ Q := T_aload_n hd (i := 1) rfl rfl k
theorem T_ast1 {a0 a1 : Option Value} {x : Nat} (hd : decode M.2.1 pc = .ok (.astore_n 1, 1)) (hn : 1 < M.2.2.1) (ho : noL (a0 :: a1 :: t) 1 = true) (k : TT M d (pc + 1) (a0 :: some (.ref x) :: t) st σ Q) : TT M d pc (a0 :: a1 :: t) (.ref x :: st) σ Q := T_astore_n hd (i := 1) rfl hn ho k
theorem T_inc1 {a0 : Option Value} {x : Int32} {n : Int} (hd : decode M.2.1 pc = .ok (.iinc 1 n, 3)) (hn : 1 < M.2.2.1) (ho : noL (a0 :: some (.int x) :: t) 1 = true) (k : TT M d (pc + 3) (a0 :: some (.int (x + Int32.ofInt n)) :: t) st σ Q) : TT M d pc (a0 :: some (.int x) :: t) st σ Q := T_iinc hd rfl hn ho k
theorem T_ild2 {a0 a1 : Option Value} {x : Int32} (hd : decode M.2.1 pc = .ok (.iload_n 2, 1)) (k : TT M d (pc + 1) (a0 :: a1 :: some (.int x) :: t) (.int x :: st) σ Q) : TT M d pc (a0 :: a1 :: some (.int x) :: t) st σ Q := T_iload_n hd (i := 2) rfl rfl k
theorem T_ist2 {a0 a1 a2 : Option Value} {x : Int32} (hd : decode M.2.1 pc = .ok (.istore_n 2, 1)) (hn : 2 < M.2.2.1) (ho : noL (a0 :: a1 :: a2 :: t) 2 = true) (k : TT M d (pc + 1) (a0 :: a1 :: some (.int x) :: t) st σ Q) : TT M d pc (a0 :: a1 :: a2 :: t) (.int x :: st) σ Q := T_istore_n hd (i := 2) rfl hn ho k
theorem T_lld2 {a0 a1 : Option Value} {x : Int64} (hd : decode M.2.1 pc = .ok (.lload_n 2, 1)) (k : TT M d (pc + 1) (a0 :: a1 :: some (.long x) :: t) (.long x :: st) σ Q) : TT M d pc (a0 :: a1 :: some (.long x) :: t) st σ Q := T_lload_n hd (i := 2) rfl rfl k
theorem T_lst2 {a0 a1 a2 b : Option Value} {x : Int64} (hd : decode M.2.1 pc = .ok (.lstore_n 2, 1)) (hn : 2 + 1 < M.2.2.1) (ho : noL (a0 :: a1 :: a2 :: b :: t) 2 = true) (k : TT M d (pc + 1) (a0 :: a1 :: some (.long x) :: none :: t) st σ Q) : TT M d pc (a0 :: a1 :: a2 :: b :: t) (.long x :: st) σ Q := T_lstore_n hd (i := 2) rfl hn ho k
theorem T_ald2 {a0 a1 : Option Value} {x : Nat} (hd : decode M.2.1 pc = .ok (.aload_n 2, 1)) (k : TT M d (pc + 1) (a0 :: a1 :: some (.ref x) :: t) (.ref x :: st) σ Q) : TT M d pc (a0 :: a1 :: some (.ref x) :: t) st σ Q := T_aload_n hd (i := 2) rfl rfl k
theorem T_ast2 {a0 a1 a2 : Option Value} {x : Nat} (hd : decode M.2.1 pc = .ok (.astore_n 2, 1)) (hn : 2 < M.2.2.1) (ho : noL (a0 :: a1 :: a2 :: t) 2 = true) (k : TT M d (pc + 1) (a0 :: a1 :: some (.ref x) :: t) st σ Q) : TT M d pc (a0 :: a1 :: a2 :: t) (.ref x :: st) σ Q := T_astore_n hd (i := 2) rfl hn ho k
theorem T_inc2 {a0 a1 : Option Value} {x : Int32} {n : Int} (hd : decode M.2.1 pc = .ok (.iinc 2 n, 3)) (hn : 2 < M.2.2.1) (ho : noL (a0 :: a1 :: some (.int x) :: t) 2 = true) (k : TT M d (pc + 3) (a0 :: a1 :: some (.int (x + Int32.ofInt n)) :: t) st σ Q) : TT M d pc (a0 :: a1 :: some (.int x) :: t) st σ Q := T_iinc hd rfl hn ho k
theorem T_ild3 {a0 a1 a2 : Option Value} {x : Int32} (hd : decode M.2.1 pc = .ok (.iload_n 3, 1)) (k : TT M d (pc + 1) (a0 :: a1 :: a2 :: some (.int x) :: t) (.int x :: st) σ Q) : TT M d pc (a0 :: a1 :: a2 :: some (.int x) :: t) st σ Q := T_iload_n hd (i := 3) rfl rfl k
theorem T_ist3 {a0 a1 a2 a3 : Option Value} {x : Int32} (hd : decode M.2.1 pc = .ok (.istore_n 3, 1)) (hn : 3 < M.2.2.1) (ho : noL (a0 :: a1 :: a2 :: a3 :: t) 3 = true) (k : TT M d (pc + 1) (a0 :: a1 :: a2 :: some (.int x) :: t) st σ Q) : TT M d pc (a0 :: a1 :: a2 :: a3 :: t) (.int x :: st) σ Q := T_istore_n hd (i := 3) rfl hn ho k
theorem T_lld3 {a0 a1 a2 : Option Value} {x : Int64} (hd : decode M.2.1 pc = .ok (.lload_n 3, 1)) (k : TT M d (pc + 1) (a0 :: a1 :: a2 :: some (.long x) :: t) (.long x :: st) σ Q) : TT M d pc (a0 :: a1 :: a2 :: some (.long x) :: t) st σ Q := T_lload_n hd (i := 3) rfl rfl k
theorem T_lst3 {a0 a1 a2 a3 b : Option Value} {x : Int64} (hd : decode M.2.1 pc = .ok (.lstore_n 3, 1)) (hn : 3 + 1 < M.2.2.1) (ho : noL (a0 :: a1 :: a2 :: a3 :: b :: t) 3 = true) (k : TT M d (pc + 1) (a0 :: a1 :: a2 :: some (.long x) :: none :: t) st σ Q) : TT M d pc (a0 :: a1 :: a2 :: a3 :: b :: t) (.long x :: st) σ Q := T_lstore_n hd (i := 3) rfl hn ho k
theorem T_ald3 {a0 a1 a2 : Option Value} {x : Nat} (hd : decode M.2.1 pc = .ok (.aload_n 3, 1)) (k : TT M d (pc + 1) (a0 :: a1 :: a2 :: some (.ref x) :: t) (.ref x :: st) σ Q) : TT M d pc (a0 :: a1 :: a2 :: some (.ref x) :: t) st σ Q := T_aload_n hd (i := 3) rfl rfl k
theorem T_ast3 {a0 a1 a2 a3 : Option Value} {x : Nat} (hd : decode M.2.1 pc = .ok (.astore_n 3, 1)) (hn : 3 < M.2.2.1) (ho : noL (a0 :: a1 :: a2 :: a3 :: t) 3 = true) (k : TT M d (pc + 1) (a0 :: a1 :: a2 :: some (.ref x) :: t) st σ Q) : TT M d pc (a0 :: a1 :: a2 :: a3 :: t) (.ref x :: st) σ Q := T_astore_n hd (i := 3) rfl hn ho k
theorem T_inc3 {a0 a1 a2 : Option Value} {x : Int32} {n : Int} (hd : decode M.2.1 pc = .ok (.iinc 3 n, 3)) (hn : 3 < M.2.2.1) (ho : noL (a0 :: a1 :: a2 :: some (.int x) :: t) 3 = true) (k : TT M d (pc + 3) (a0 :: a1 :: a2 :: some (.int (x + Int32.ofInt n)) :: t) st σ Q) : TT M d pc (a0 :: a1 :: a2 :: some (.int x) :: t) st σ Q := T_iinc hd rfl hn ho k
theorem T_ild4 {a0 a1 a2 a3 : Option Value} {x : Int32} (hd : decode M.2.1 pc = .ok (.iload 4, 2)) (k : TT M d (pc + 2) (a0 :: a1 :: a2 :: a3 :: some (.int x) :: t) (.int x :: st) σ Q) : TT M d pc (a0 :: a1 :: a2 :: a3 :: some (.int x) :: t) st σ Q := T_iload hd rfl k
theorem T_ist4 {a0 a1 a2 a3 a4 : Option Value} {x : Int32} (hd : decode M.2.1 pc = .ok (.istore 4, 2)) (hn : 4 < M.2.2.1) (ho : noL (a0 :: a1 :: a2 :: a3 :: a4 :: t) 4 = true) (k : TT M d (pc + 2) (a0 :: a1 :: a2 :: a3 :: some (.int x) :: t) st σ Q) : TT M d pc (a0 :: a1 :: a2 :: a3 :: a4 :: t) (.int x :: st) σ Q := T_istore hd hn ho k
theorem T_lld4 {a0 a1 a2 a3 : Option Value} {x : Int64} (hd : decode M.2.1 pc = .ok (.lload 4, 2)) (k : TT M d (pc + 2) (a0 :: a1 :: a2 :: a3 :: some (.long x) :: t) (.long x :: st) σ Q) : TT M d pc (a0 :: a1 :: a2 :: a3 :: some (.long x) :: t) st σ Q := T_lload hd rfl k
theorem T_lst4 {a0 a1 a2 a3 a4 b : Option Value} {x : Int64} (hd : decode M.2.1 pc = .ok (.lstore 4, 2)) (hn : 4 + 1 < M.2.2.1) (ho : noL (a0 :: a1 :: a2 :: a3 :: a4 :: b :: t) 4 = true) (k : TT M d (pc + 2) (a0 :: a1 :: a2 :: a3 :: some (.long x) :: none :: t) st σ Q) : TT M d pc (a0 :: a1 :: a2 :: a3 :: a4 :: b :: t) (.long x :: st) σ Q := T_lstore hd hn ho k
theorem T_ald4 {a0 a1 a2 a3 : Option Value} {x : Nat} (hd : decode M.2.1 pc = .ok (.aload 4, 2)) (k : TT M d (pc + 2) (a0 :: a1 :: a2 :: a3 :: some (.ref x) :: t) (.ref x :: st) σ Q) : TT M d pc (a0 :: a1 :: a2 :: a3 :: some (.ref x) :: t) st σ Q := T_aload hd rfl k
theorem T_ast4 {a0 a1 a2 a3 a4 : Option Value} {x : Nat} (hd : decode M.2.1 pc = .ok (.astore 4, 2)) (hn : 4 < M.2.2.1) (ho : noL (a0 :: a1 :: a2 :: a3 :: a4 :: t) 4 = true) (k : TT M d (pc + 2) (a0 :: a1 :: a2 :: a3 :: some (.ref x) :: t) st σ Q) : TT M d pc (a0 :: a1 :: a2 :: a3 :: a4 :: t) (.ref x :: st) σ Q := T_astore hd hn ho k
theorem T_inc4 {a0 a1 a2 a3 : Option Value} {x : Int32} {n : Int} (hd : decode M.2.1 pc = .ok (.iinc 4 n, 3)) (hn : 4 < M.2.2.1) (ho : noL (a0 :: a1 :: a2 :: a3 :: some (.int x) :: t) 4 = true) (k : TT M d (pc + 3) (a0 :: a1 :: a2 :: a3 :: some (.int (x + Int32.ofInt n)) :: t) st σ Q) : TT M d pc (a0 :: a1 :: a2 :: a3 :: some (.int x) :: t) st σ Q := T_iinc hd rfl hn ho k
theorem T_ild5 {a0 a1 a2 a3 a4 : Option Value} {x : Int32} (hd : decode M.2.1 pc = .ok (.iload 5, 2)) (k : TT M d (pc + 2) (a0 :: a1 :: a2 :: a3 :: a4 :: some (.int x) :: t) (.int x :: st) σ Q) : TT M d pc (a0 :: a1 :: a2 :: a3 :: a4 :: some (.int x) :: t) st σ Q := T_iload hd rfl k
theorem T_ist5 {a0 a1 a2 a3 a4 a5 : Option Value} {x : Int32} (hd : decode M.2.1 pc = .ok (.istore 5, 2)) (hn : 5 < M.2.2.1) (ho : noL (a0 :: a1 :: a2 :: a3 :: a4 :: a5 :: t) 5 = true) (k : TT M d (pc + 2) (a0 :: a1 :: a2 :: a3 :: a4 :: some (.int x) :: t) st σ Q) : TT M d pc (a0 :: a1 :: a2 :: a3 :: a4 :: a5 :: t) (.int x :: st) σ Q := T_istore hd hn ho k
theorem T_lld5 {a0 a1 a2 a3 a4 : Option Value} {x : Int64} (hd : decode M.2.1 pc = .ok (.lload 5, 2)) (k : TT M d (pc + 2) (a0 :: a1 :: a2 :: a3 :: a4 :: some (.long x) :: t) (.long x :: st) σ Q) : TT M d pc (a0 :: a1 :: a2 :: a3 :: a4 :: some (.long x) :: t) st σ Q := T_lload hd rfl k
theorem T_lst5 {a0 a1 a2 a3 a4 a5 b : Option Value} {x : Int64} (hd : decode M.2.1 pc = .ok (.lstore 5, 2)) (hn : 5 + 1 < M.2.2.1) (ho : noL (a0 :: a1 :: a2 :: a3 :: a4 :: a5 :: b :: t) 5 = true) (k : TT M d (pc + 2) (a0 :: a1 :: a2 :: a3 :: a4 :: some (.long x) :: none :: t) st σ Q) : TT M d pc (a0 :: a1 :: a2 :: a3 :: a4 :: a5 :: b :: t) (.long x :: st) σ Q := T_lstore hd hn ho k
theorem T_ald5 {a0 a1 a2 a3 a4 : Option Value} {x : Nat} (hd : decode M.2.1 pc = .ok (.aload 5, 2)) (k : TT M d (pc + 2) (a0 :: a1 :: a2 :: a3 :: a4 :: some (.ref x) :: t) (.ref x :: st) σ Q) : TT M d pc (a0 :: a1 :: a2 :: a3 :: a4 :: some (.ref x) :: t) st σ Q := T_aload hd rfl k
theorem T_ast5 {a0 a1 a2 a3 a4 a5 : Option Value} {x : Nat} (hd : decode M.2.1 pc = .ok (.astore 5, 2)) (hn : 5 < M.2.2.1) (ho : noL (a0 :: a1 :: a2 :: a3 :: a4 :: a5 :: t) 5 = true) (k : TT M d (pc + 2) (a0 :: a1 :: a2 :: a3 :: a4 :: some (.ref x) :: t) st σ Q) : TT M d pc (a0 :: a1 :: a2 :: a3 :: a4 :: a5 :: t) (.ref x :: st) σ Q := T_astore hd hn ho k
theorem T_inc5 {a0 a1 a2 a3 a4 : Option Value} {x : Int32} {n : Int} (hd : decode M.2.1 pc = .ok (.iinc 5 n, 3)) (hn : 5 < M.2.2.1) (ho : noL (a0 :: a1 :: a2 :: a3 :: a4 :: some (.int x) :: t) 5 = true) (k : TT M d (pc + 3) (a0 :: a1 :: a2 :: a3 :: a4 :: some (.int (x + Int32.ofInt n)) :: t) st σ Q) : TT M d pc (a0 :: a1 :: a2 :: a3 :: a4 :: some (.int x) :: t) st σ Q := T_iinc hd rfl hn ho k
theorem T_ild6 {a0 a1 a2 a3 a4 a5 : Option Value} {x : Int32} (hd : decode M.2.1 pc = .ok (.iload 6, 2)) (k : TT M d (pc + 2) (a0 :: a1 :: a2 :: a3 :: a4 :: a5 :: some (.int x) :: t) (.int x :: st) σ Q) : TT M d pc (a0 :: a1 :: a2 :: a3 :: a4 :: a5 :: some (.int x) :: t) st σ Q := T_iload hd rfl k
theorem T_ist6 {a0 a1 a2 a3 a4 a5 a6 : Option Value} {x : Int32} (hd : decode M.2.1 pc = .ok (.istore 6, 2)) (hn : 6 < M.2.2.1) (ho : noL (a0 :: a1 :: a2 :: a3 :: a4 :: a5 :: a6 :: t) 6 = true) (k : TT M d (pc + 2) (a0 :: a1 :: a2 :: a3 :: a4 :: a5 :: some (.int x) :: t) st σ Q) : TT M d pc (a0 :: a1 :: a2 :: a3 :: a4 :: a5 :: a6 :: t) (.int x :: st) σ Q := T_istore hd hn ho k
theorem T_lld6 {a0 a1 a2 a3 a4 a5 : Option Value} {x : Int64} (hd : decode M.2.1 pc = .ok (.lload 6, 2)) (k : TT M d (pc + 2) (a0 :: a1 :: a2 :: a3 :: a4 :: a5 :: some (.long x) :: t) (.long x :: st) σ Q) : TT M d pc (a0 :: a1 :: a2 :: a3 :: a4 :: a5 :: some (.long x) :: t) st σ Q := T_lload hd rfl k
theorem T_lst6 {a0 a1 a2 a3 a4 a5 a6 b : Option Value} {x : Int64} (hd : decode M.2.1 pc = .ok (.lstore 6, 2)) (hn : 6 + 1 < M.2.2.1) (ho : noL (a0 :: a1 :: a2 :: a3 :: a4 :: a5 :: a6 :: b :: t) 6 = true) (k : TT M d (pc + 2) (a0 :: a1 :: a2 :: a3 :: a4 :: a5 :: some (.long x) :: none :: t) st σ Q) : TT M d pc (a0 :: a1 :: a2 :: a3 :: a4 :: a5 :: a6 :: b :: t) (.long x :: st) σ Q := T_lstore hd hn ho k
theorem T_ald6 {a0 a1 a2 a3 a4 a5 : Option Value} {x : Nat} (hd : decode M.2.1 pc = .ok (.aload 6, 2)) (k : TT M d (pc + 2) (a0 :: a1 :: a2 :: a3 :: a4 :: a5 :: some (.ref x) :: t) (.ref x :: st) σ Q) : TT M d pc (a0 :: a1 :: a2 :: a3 :: a4 :: a5 :: some (.ref x) :: t) st σ Q := T_aload hd rfl k
theorem T_ast6 {a0 a1 a2 a3 a4 a5 a6 : Option Value} {x : Nat} (hd : decode M.2.1 pc = .ok (.astore 6, 2)) (hn : 6 < M.2.2.1) (ho : noL (a0 :: a1 :: a2 :: a3 :: a4 :: a5 :: a6 :: t) 6 = true) (k : TT M d (pc + 2) (a0 :: a1 :: a2 :: a3 :: a4 :: a5 :: some (.ref x) :: t) st σ Q) : TT M d pc (a0 :: a1 :: a2 :: a3 :: a4 :: a5 :: a6 :: t) (.ref x :: st) σ Q := T_astore hd hn ho k
theorem T_inc6 {a0 a1 a2 a3 a4 a5 : Option Value} {x : Int32} {n : Int} (hd : decode M.2.1 pc = .ok (.iinc 6 n, 3)) (hn : 6 < M.2.2.1) (ho : noL (a0 :: a1 :: a2 :: a3 :: a4 :: a5 :: some (.int x) :: t) 6 = true) (k : TT M d (pc + 3) (a0 :: a1 :: a2 :: a3 :: a4 :: a5 :: some (.int (x + Int32.ofInt n)) :: t) st σ Q) : TT M d pc (a0 :: a1 :: a2 :: a3 :: a4 :: a5 :: some (.int x) :: t) st σ Q := T_iinc hd rfl hn ho k
theorem T_ild7 {a0 a1 a2 a3 a4 a5 a6 : Option Value} {x : Int32} (hd : decode M.2.1 pc = .ok (.iload 7, 2)) (k : TT M d (pc + 2) (a0 :: a1 :: a2 :: a3 :: a4 :: a5 :: a6 :: some (.int x) :: t) (.int x :: st) σ Q) : TT M d pc (a0 :: a1 :: a2 :: a3 :: a4 :: a5 :: a6 :: some (.int x) :: t) st σ Q := T_iload hd rfl k
theorem T_ist7 {a0 a1 a2 a3 a4 a5 a6 a7 : Option Value} {x : Int32} (hd : decode M.2.1 pc = .ok (.istore 7, 2)) (hn : 7 < M.2.2.1) (ho : noL (a0 :: a1 :: a2 :: a3 :: a4 :: a5 :: a6 :: a7 :: t) 7 = true) (k : TT M d (pc + 2) (a0 :: a1 :: a2 :: a3 :: a4 :: a5 :: a6 :: some (.int x) :: t) st σ Q) : TT M d pc (a0 :: a1 :: a2 :: a3 :: a4 :: a5 :: a6 :: a7 :: t) (.int x :: st) σ Q := T_istore hd hn ho k
theorem T_lld7 {a0 a1 a2 a3 a4 a5 a6 : Option Value} {x : Int64} (hd : decode M.2.1 pc = .ok (.lload 7, 2)) (k : TT M d (pc + 2) (a0 :: a1 :: a2 :: a3 :: a4 :: a5 :: a6 :: some (.long x) :: t) (.long x :: st) σ Q) : TT M d pc (a0 :: a1 :: a2 :: a3 :: a4 :: a5 :: a6 :: some (.long x) :: t) st σ Q := T_lload hd rfl k
theorem T_lst7 {a0 a1 a2 a3 a4 a5 a6 a7 b : Option Value} {x : Int64} (hd : decode M.2.1 pc = .ok (.lstore 7, 2)) (hn : 7 + 1 < M.2.2.1) (ho : noL (a0 :: a1 :: a2 :: a3 :: a4 :: a5 :: a6 :: a7 :: b :: t) 7 = true) (k : TT M d (pc + 2) (a0 :: a1 :: a2 :: a3 :: a4 :: a5 :: a6 :: some (.long x) :: none :: t) st σ Q) : TT M d pc (a0 :: a1 :: a2 :: a3 :: a4 :: a5 :: a6 :: a7 :: b :: t) (.long x :: st) σ Q := T_lstore hd hn ho k
theorem T_ald7 {a0 a1 a2 a3 a4 a5 a6 : Option Value} {x : Nat} (hd : decode M.2.1 pc = .ok (.aload 7, 2)) (k : TT M d (pc + 2) (a0 :: a1 :: a2 :: a3 :: a4 :: a5 :: a6 :: some (.ref x) :: t) (.ref x :: st) σ Q) : TT M d pc (a0 :: a1 :: a2 :: a3 :: a4 :: a5 :: a6 :: some (.ref x) :: t) st σ Q := T_aload hd rfl k
theorem T_ast7 {a0 a1 a2 a3 a4 a5 a6 a7 : Option Value} {x : Nat} (hd : decode M.2.1 pc = .ok (.astore 7, 2)) (hn : 7 < M.2.2.1) (ho : noL (a0 :: a1 :: a2 :: a3 :: a4 :: a5 :: a6 :: a7 :: t) 7 = true) (k : TT M d (pc + 2) (a0 :: a1 :: a2 :: a3 :: a4 :: a5 :: a6 :: some (.ref x) :: t) st σ Q) : TT M d pc (a0 :: a1 :: a2 :: a3 :: a4 :: a5 :: a6 :: a7 :: t) (.ref x :: st) σ Q := T_astore hd hn ho k
theorem T_inc7 {a0 a1 a2 a3 a4 a5 a6 : Option Value} {x : Int32} {n : Int} (hd : decode M.2.1 pc = .ok (.iinc 7 n, 3)) (hn : 7 < M.2.2.1) (ho : noL (a0 :: a1 :: a2 :: a3 :: a4 :: a5 :: a6 :: some (.int x) :: t) 7 = true) (k : TT M d (pc + 3) (a0 :: a1 :: a2 :: a3 :: a4 :: a5 :: a6 :: some (.int (x + Int32.ofInt n)) :: t) st σ Q) : TT M d pc (a0 :: a1 :: a2 :: a3 :: a4 :: a5 :: a6 :: some (.int x) :: t) st σ Q := T_iinc hd rfl hn ho k
theorem T_ild8 {a0 a1 a2 a3 a4 a5 a6 a7 : Option Value} {x : Int32} (hd : decode M.2.1 pc = .ok (.iload 8, 2)) (k : TT M d (pc + 2) (a0 :: a1 :: a2 :: a3 :: a4 :: a5 :: a6 :: a7 :: some (.int x) :: t) (.int x :: st) σ Q) : TT M d pc (a0 :: a1 :: a2 :: a3 :: a4 :: a5 :: a6 :: a7 :: some (.int x) :: t) st σ Q := T_iload hd rfl k
theorem T_ist8 {a0 a1 a2 a3 a4 a5 a6 a7 a8 : Option Value} {x : Int32} (hd : decode M.2.1 pc = .ok (.istore 8, 2)) (hn : 8 < M.2.2.1) (ho : noL (a0 :: a1 :: a2 :: a3 :: a4 :: a5 :: a6 :: a7 :: a8 :: t) 8 = true) (k : TT M d (pc + 2) (a0 :: a1 :: a2 :: a3 :: a4 :: a5 :: a6 :: a7 :: some (.int x) :: t) st σ Q) : TT M d pc (a0 :: a1 :: a2 :: a3 :: a4 :: a5 :: a6 :: a7 :: a8 :: t) (.int x :: st) σ Q := T_istore hd hn ho k
theorem T_lld8 {a0 a1 a2 a3 a4 a5 a6 a7 : Option Value} {x : Int64} (hd : decode M.2.1 pc = .ok (.lload 8, 2)) (k : TT M d (pc + 2) (a0 :: a1 :: a2 :: a3 :: a4 :: a5 :: a6 :: a7 :: some (.long x) :: t) (.long x :: st) σ Q) : TT M d pc (a0 :: a1 :: a2 :: a3 :: a4 :: a5 :: a6 :: a7 :: some (.long x) :: t) st σ Q := T_lload hd rfl k
theorem T_lst8 {a0 a1 a2 a3 a4 a5 a6 a7 a8 b : Option Value} {x : Int64} (hd : decode M.2.1 pc = .ok (.lstore 8, 2)) (hn : 8 + 1 < M.2.2.1) (ho : noL (a0 :: a1 :: a2 :: a3 :: a4 :: a5 :: a6 :: a7 :: a8 :: b :: t) 8 = true) (k : TT M d (pc + 2) (a0 :: a1 :: a2 :: a3 :: a4 :: a5 :: a6 :: a7 :: some (.long x) :: none :: t) st σ Q) : TT M d pc (a0 :: a1 :: a2 :: a3 :: a4 :: a5 :: a6 :: a7 :: a8 :: b :: t) (.long x :: st) σ Q := T_lstore hd hn ho k
theorem T_ald8 {a0 a1 a2 a3 a4 a5 a6 a7 : Option Value} {x : Nat} (hd : decode M.2.1 pc = .ok (.aload 8, 2)) (k : TT M d (pc + 2) (a0 :: a1 :: a2 :: a3 :: a4 :: a5 :: a6 :: a7 :: some (.ref x) :: t) (.ref x :: st) σ Q) : TT M d pc (a0 :: a1 :: a2 :: a3 :: a4 :: a5 :: a6 :: a7 :: some (.ref x) :: t) st σ Q := T_aload hd rfl k
theorem T_ast8 {a0 a1 a2 a3 a4 a5 a6 a7 a8 : Option Value} {x : Nat} (hd : decode M.2.1 pc = .ok (.astore 8, 2)) (hn : 8 < M.2.2.1) (ho : noL (a0 :: a1 :: a2 :: a3 :: a4 :: a5 :: a6 :: a7 :: a8 :: t) 8 = true) (k : TT M d (pc + 2) (a0 :: a1 :: a2 :: a3 :: a4 :: a5 :: a6 :: a7 :: some (.ref x) :: t) st σ Q) : TT M d pc (a0 :: a1 :: a2 :: a3 :: a4 :: a5 :: a6 :: a7 :: a8 :: t) (.ref x :: st) σ Q := T_astore hd hn ho k
theorem T_inc8 {a0 a1 a2 a3 a4 a5 a6 a7 : Option Value} {x : Int32} {n : Int} (hd : decode M.2.1 pc = .ok (.iinc 8 n, 3)) (hn : 8 < M.2.2.1) (ho : noL (a0 :: a1 :: a2 :: a3 :: a4 :: a5 :: a6 :: a7 :: some (.int x) :: t) 8 = true) (k : TT M d (pc + 3) (a0 :: a1 :: a2 :: a3 :: a4 :: a5 :: a6 :: a7 :: some (.int (x + Int32.ofInt n)) :: t) st σ Q) : TT M d pc (a0 :: a1 :: a2 :: a3 :: a4 :: a5 :: a6 :: a7 :: some (.int x) :: t) st σ Q := T_iinc hd rfl hn ho k
theorem T_ild9 {a0 a1 a2 a3 a4 a5 a6 a7 a8 : Option Value} {x : Int32} (hd : decode M.2.1 pc = .ok (.iload 9, 2)) (k : TT M d (pc + 2) (a0 :: a1 :: a2 :: a3 :: a4 :: a5 :: a6 :: a7 :: a8 :: some (.int x) :: t) (.int x :: st) σ Q) : TT M d pc (a0 :: a1 :: a2 :: a3 :: a4 :: a5 :: a6 :: a7 :: a8 :: some (.int x) :: t) st σ Q := T_iload hd rfl k
theorem T_ist9 {a0 a1 a2 a3 a4 a5 a6 a7 a8 a9 : Option Value} {x : Int32} (hd : decode M.2.1 pc = .ok (.istore 9, 2)) (hn : 9 < M.2.2.1) (ho : noL (a0 :: a1 :: a2 :: a3 :: a4 :: a5 :: a6 :: a7 :: a8 :: a9 :: t) 9 = true) (k : TT M d (pc + 2) (a0 :: a1 :: a2 :: a3 :: a4 :: a5 :: a6 :: a7 :: a8 :: some (.int x) :: t) st σ Q) : TT M d pc (a0 :: a1 :: a2 :: a3 :: a4 :: a5 :: a6 :: a7 :: a8 :: a9 :: t) (.int x :: st) σ Q := T_istore hd hn ho k
theorem T_lld9 {a0 a1 a2 a3 a4 a5 a6 a7 a8 : Option Value} {x : Int64} (hd : decode M.2.1 pc = .ok (.lload 9, 2)) (k : TT M d (pc + 2) (a0 :: a1 :: a2 :: a3 :: a4 :: a5 :: a6 :: a7 :: a8 :: some (.long x) :: t) (.long x :: st) σ Q) : TT M d pc (a0 :: a1 :: a2 :: a3 :: a4 :: a5 :: a6 :: a7 :: a8 :: some (.long x) :: t) st σ Q := T_lload hd rfl k
theorem T_lst9 {a0 a1 a2 a3 a4 a5 a6 a7 a8 a9 b : Option Value} {x : Int64} (hd : decode M.2.1 pc = .ok (.lstore 9, 2)) (hn : 9 + 1 < M.2.2.1) (ho : noL (a0 :: a1 :: a2 :: a3 :: a4 :: a5 :: a6 :: a7 :: a8 :: a9 :: b :: t) 9 = true) (k : TT M d (pc + 2) (a0 :: a1 :: a2 :: a3 :: a4 :: a5 :: a6 :: a7 :: a8 :: some (.long x) :: none :: t) st σ Q) : TT M d pc (a0 :: a1 :: a2 :: a3 :: a4 :: a5 :: a6 :: a7 :: a8 :: a9 :: b :: t) (.long x :: st) σ Q := T_lstore hd hn ho k
theorem T_ald9 {a0 a1 a2 a3 a4 a5 a6 a7 a8 : Option Value} {x : Nat} (hd : decode M.2.1 pc = .ok (.aload 9, 2)) (k : TT M d (pc + 2) (a0 :: a1 :: a2 :: a3 :: a4 :: a5 :: a6 :: a7 :: a8 :: some (.ref x) :: t) (.ref x :: st) σ Q) : TT M d pc (a0 :: a1 :: a2 :: a3 :: a4 :: a5 :: a6 :: a7 :: a8 :: some (.ref x) :: t) st σ Q := T_aload hd rfl k
theorem T_ast9 {a0 a1 a2 a3 a4 a5 a6 a7 a8 a9 : Option Value} {x : Nat} (hd : decode M.2.1 pc = .ok (.astore 9, 2)) (hn : 9 < M.2.2.1) (ho : noL (a0 :: a1 :: a2 :: a3 :: a4 :: a5 :: a6 :: a7 :: a8 :: a9 :: t) 9 = true) (k : TT M d (pc + 2) (a0 :: a1 :: a2 :: a3 :: a4 :: a5 :: a6 :: a7 :: a8 :: some (.ref x) :: t) st σ Q) : TT M d pc (a0 :: a1 :: a2 :: a3 :: a4 :: a5 :: a6 :: a7 :: a8 :: a9 :: t) (.ref x :: st) σ Q := T_astore hd hn ho k
theorem T_inc9 {a0 a1 a2 a3 a4 a5 a6 a7 a8 : Option Value} {x : Int32} {n : Int} (hd : decode M.2.1 pc = .ok (.iinc 9 n, 3)) (hn : 9 < M.2.2.1) (ho : noL (a0 :: a1 :: a2 :: a3 :: a4 :: a5 :: a6 :: a7 :: a8 :: some (.int x) :: t) 9 = true) (k : TT M d (pc + 3) (a0 :: a1 :: a2 :: a3 :: a4 :: a5 :: a6 :: a7 :: a8 :: some (.int (x + Int32.ofInt n)) :: t) st σ Q) : TT M d pc (a0 :: a1 :: a2 :: a3 :: a4 :: a5 :: a6 :: a7 :: a8 :: some (.int x) :: t) st σ Q := T_iinc hd rfl hn ho k
theorem T_ild10 {a0 a1 a2 a3 a4 a5 a6 a7 a8 a9 : Option Value} {x : Int32} (hd : decode M.2.1 pc = .ok (.iload 10, 2)) (k : TT M d (pc + 2) (a0 :: a1 :: a2 :: a3 :: a4 :: a5 :: a6 :: a7 :: a8 :: a9 :: some (.int x) :: t) (.int x :: st) σ Q) : TT M d pc (a0 :: a1 :: a2 :: a3 :: a4 :: a5 :: a6 :: a7 :: a8 :: a9 :: some (.int x) :: t) st σ Q := T_iload hd rfl k
theorem T_ist10 {a0 a1 a2 a3 a4 a5 a6 a7 a8 a9 a10 : Option Value} {x : Int32} (hd : decode M.2.1 pc = .ok (.istore 10, 2)) (hn : 10 < M.2.2.1) (ho : noL (a0 :: a1 :: a2 :: a3 :: a4 :: a5 :: a6 :: a7 :: a8 :: a9 :: a10 :: t) 10 = true) (k : TT M d (pc + 2) (a0 :: a1 :: a2 :: a3 :: a4 :: a5 :: a6 :: a7 :: a8 :: a9 :: some (.int x) :: t) st σ Q) : TT M d pc (a0 :: a1 :: a2 :: a3 :: a4 :: a5 :: a6 :: a7 :: a8 :: a9 :: a10 :: t) (.int x :: st) σ Q := T_istore hd hn ho k
theorem T_lld10 {a0 a1 a2 a3 a4 a5 a6 a7 a8 a9 : Option Value} {x : Int64} (hd : decode M.2.1 pc = .ok (.lload 10, 2)) (k : TT M d (pc + 2) (a0 :: a1 :: a2 :: a3 :: a4 :: a5 :: a6 :: a7 :: a8 :: a9 :: some (.long x) :: t) (.long x :: st) σ Q) : TT M d pc (a0 :: a1 :: a2 :: a3 :: a4 :: a5 :: a6 :: a7 :: a8 :: a9 :: some (.long x) :: t) st σ Q := T_lload hd rfl k
theorem T_lst10 {a0 a1 a2 a3 a4 a5 a6 a7 a8 a9 a10 b : Option Value} {x : Int64} (hd : decode M.2.1 pc = .ok (.lstore 10, 2)) (hn : 10 + 1 < M.2.2.1) (ho : noL (a0 :: a1 :: a2 :: a3 :: a4 :: a5 :: a6 :: a7 :: a8 :: a9 :: a10 :: b :: t) 10 = true) (k : TT M d (pc + 2) (a0 :: a1 :: a2 :: a3 :: a4 :: a5 :: a6 :: a7 :: a8 :: a9 :: some (.long x) :: none :: t) st σ Q) : TT M d pc (a0 :: a1 :: a2 :: a3 :: a4 :: a5 :: a6 :: a7 :: a8 :: a9 :: a10 :: b :: t) (.long x :: st) σ Q := T_lstore hd hn ho k
theorem T_ald10 {a0 a1 a2 a3 a4 a5 a6 a7 a8 a9 : Option Value} {x : Nat} (hd : decode M.2.1 pc = .ok (.aload 10, 2)) (k : TT M d (pc + 2) (a0 :: a1 :: a2 :: a3 :: a4 :: a5 :: a6 :: a7 :: a8 :: a9 :: some (.ref x) :: t) (.ref x :: st) σ Q) : TT M d pc (a0 :: a1 :: a2 :: a3 :: a4 :: a5 :: a6 :: a7 :: a8 :: a9 :: some (.ref x) :: t) st σ Q := T_aload hd rfl k
theorem T_ast10 {a0 a1 a2 a3 a4 a5 a6 a7 a8 a9 a10 : Option Value} {x : Nat} (hd : decode M.2.1 pc = .ok (.astore 10, 2)) (hn : 10 < M.2.2.1) (ho : noL (a0 :: a1 :: a2 :: a3 :: a4 :: a5 :: a6 :: a7 :: a8 :: a9 :: a10 :: t) 10 = true) (k : TT M d (pc + 2) (a0 :: a1 :: a2 :: a3 :: a4 :: a5 :: a6 :: a7 :: a8 :: a9 :: some (.ref x) :: t) st σ Q) : TT M d pc (a0 :: a1 :: a2 :: a3 :: a4 :: a5 :: a6 :: a7 :: a8 :: a9 :: a10 :: t) (.ref x :: st) σ Q := T_astore hd hn ho k
theorem T_inc10 {a0 a1 a2 a3 a4 a5 a6 a7 a8 a9 : Option Value} {x : Int32} {n : Int} (hd : decode M.2.1 pc = .ok (.iinc 10 n, 3)) (hn : 10 < M.2.2.1) (ho : noL (a0 :: a1 :: a2 :: a3 :: a4 :: a5 :: a6 :: a7 :: a8 :: a9 :: some (.int x) :: t) 10 = true) (k : TT M d (pc + 3) (a0 :: a1 :: a2 :: a3 :: a4 :: a5 :: a6 :: a7 :: a8 :: a9 :: some (.int (x + Int32.ofInt n)) :: t) st σ Q) : TT M d pc (a0 :: a1 :: a2 :: a3 :: a4 :: a5 :: a6 :: a7 :: a8 :: a9 :: some (.int x) :: t) st σ Q := T_iinc hd rfl hn ho k
end TPAT
