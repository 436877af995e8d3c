section RUL
variable {l : Launch} {y : MD} {pc : Nat} {L : ML} {S : List Value} {h : MH} {Q : Option Value → MH → Prop}
theorem g_iadd {x z : Int32} (n : Nat) (d : decode y.2.1 pc = .ok (.iadd, 1))  (hn : pc + 1 = n) (k : Go l y n L (.int (x + z) :: S) h Q) : Go l y pc L (.int z :: .int x :: S) h Q := by
  subst hn
  exact Go.s0 (fun p e R s m args below meth c b D kA H locs cells slots ls Qf C hf ho hc hs hR hl kk => lv_iadd C.1 C.2.1 d (kk ls hl)) k
theorem g_isub {x z : Int32} (n : Nat) (d : decode y.2.1 pc = .ok (.isub, 1))  (hn : pc + 1 = n) (k : Go l y n L (.int (x - z) :: S) h Q) : Go l y pc L (.int z :: .int x :: S) h Q := by
  subst hn
  exact Go.s0 (fun p e R s m args below meth c b D kA H locs cells slots ls Qf C hf ho hc hs hR hl kk => lv_isub C.1 C.2.1 d (kk ls hl)) k
theorem g_imul {x z : Int32} (n : Nat) (d : decode y.2.1 pc = .ok (.imul, 1))  (hn : pc + 1 = n) (k : Go l y n L (.int (x * z) :: S) h Q) : Go l y pc L (.int z :: .int x :: S) h Q := by
  subst hn
  exact Go.s0 (fun p e R s m args below meth c b D kA H locs cells slots ls Qf C hf ho hc hs hR hl kk => lv_imul C.1 C.2.1 d (kk ls hl)) k
theorem g_iand {x z : Int32} (n : Nat) (d : decode y.2.1 pc = .ok (.iand, 1))  (hn : pc + 1 = n) (k : Go l y n L (.int (x &&& z) :: S) h Q) : Go l y pc L (.int z :: .int x :: S) h Q := by
  subst hn
  exact Go.s0 (fun p e R s m args below meth c b D kA H locs cells slots ls Qf C hf ho hc hs hR hl kk => lv_iand C.1 C.2.1 d (kk ls hl)) k
theorem g_ior {x z : Int32} (n : Nat) (d : decode y.2.1 pc = .ok (.ior, 1))  (hn : pc + 1 = n) (k : Go l y n L (.int (x ||| z) :: S) h Q) : Go l y pc L (.int z :: .int x :: S) h Q := by
  subst hn
  exact Go.s0 (fun p e R s m args below meth c b D kA H locs cells slots ls Qf C hf ho hc hs hR hl kk => lv_ior C.1 C.2.1 d (kk ls hl)) k
theorem g_ixor {x z : Int32} (n : Nat) (d : decode y.2.1 pc = .ok (.ixor, 1))  (hn : pc + 1 = n) (k : Go l y n L (.int (x ^^^ z) :: S) h Q) : Go l y pc L (.int z :: .int x :: S) h Q := by
  subst hn
  exact Go.s0 (fun p e R s m args below meth c b D kA H locs cells slots ls Qf C hf ho hc hs hR hl kk => lv_ixor C.1 C.2.1 d (kk ls hl)) k
theorem g_ishl {x z : Int32} (n : Nat) (d : decode y.2.1 pc = .ok (.ishl, 1))  (hn : pc + 1 = n) (k : Go l y n L (.int (x <<< (z &&& 31)) :: S) h Q) : Go l y pc L (.int z :: .int x :: S) h Q := by
  subst hn
  exact Go.s0 (fun p e R s m args below meth c b D kA H locs cells slots ls Qf C hf ho hc hs hR hl kk => lv_ishl C.1 C.2.1 d (kk ls hl)) k
theorem g_ishr {x z : Int32} (n : Nat) (d : decode y.2.1 pc = .ok (.ishr, 1))  (hn : pc + 1 = n) (k : Go l y n L (.int (x >>> (z &&& 31)) :: S) h Q) : Go l y pc L (.int z :: .int x :: S) h Q := by
  subst hn
  exact Go.s0 (fun p e R s m args below meth c b D kA H locs cells slots ls Qf C hf ho hc hs hR hl kk => lv_ishr C.1 C.2.1 d (kk ls hl)) k
theorem g_idiv {x z : Int32} (n : Nat) (d : decode y.2.1 pc = .ok (.idiv, 1)) (hne : ¬ z = 0) (hn : pc + 1 = n) (k : Go l y n L (.int (x / z) :: S) h Q) : Go l y pc L (.int z :: .int x :: S) h Q := by
  subst hn
  exact Go.s0 (fun p e R s m args below meth c b D kA H locs cells slots ls Qf C hf ho hc hs hR hl kk => lv_idiv C.1 C.2.1 d hne (kk ls hl)) k
theorem g_irem {x z : Int32} (n : Nat) (d : decode y.2.1 pc = .ok (.irem, 1)) (hne : ¬ z = 0) (hn : pc + 1 = n) (k : Go l y n L (.int (x - x / z * z) :: S) h Q) : Go l y pc L (.int z :: .int x :: S) h Q := by
  subst hn
  exact Go.s0 (fun p e R s m args below meth c b D kA H locs cells slots ls Qf C hf ho hc hs hR hl kk => lv_irem C.1 C.2.1 d hne (kk ls hl)) k
theorem g_ladd {x z : Int64} (n : Nat) (d : decode y.2.1 pc = .ok (.ladd, 1))  (hn : pc + 1 = n) (k : Go l y n L (.long (x + z) :: S) h Q) : Go l y pc L (.long z :: .long x :: S) h Q := by
  subst hn
  exact Go.s0 (fun p e R s m args below meth c b D kA H locs cells slots ls Qf C hf ho hc hs hR hl kk => lv_ladd C.1 C.2.1 d (kk ls hl)) k
theorem g_lsub {x z : Int64} (n : Nat) (d : decode y.2.1 pc = .ok (.lsub, 1))  (hn : pc + 1 = n) (k : Go l y n L (.long (x - z) :: S) h Q) : Go l y pc L (.long z :: .long x :: S) h Q := by
  subst hn
  exact Go.s0 (fun p e R s m args below meth c b D kA H locs cells slots ls Qf C hf ho hc hs hR hl kk => lv_lsub C.1 C.2.1 d (kk ls hl)) k
theorem g_lmul {x z : Int64} (n : Nat) (d : decode y.2.1 pc = .ok (.lmul, 1))  (hn : pc + 1 = n) (k : Go l y n L (.long (x * z) :: S) h Q) : Go l y pc L (.long z :: .long x :: S) h Q := by
  subst hn
  exact Go.s0 (fun p e R s m args below meth c b D kA H locs cells slots ls Qf C hf ho hc hs hR hl kk => lv_lmul C.1 C.2.1 d (kk ls hl)) k
theorem g_land {x z : Int64} (n : Nat) (d : decode y.2.1 pc = .ok (.land, 1))  (hn : pc + 1 = n) (k : Go l y n L (.long (x &&& z) :: S) h Q) : Go l y pc L (.long z :: .long x :: S) h Q := by
  subst hn
  exact Go.s0 (fun p e R s m args below meth c b D kA H locs cells slots ls Qf C hf ho hc hs hR hl kk => lv_land C.1 C.2.1 d (kk ls hl)) k
theorem g_lor {x z : Int64} (n : Nat) (d : decode y.2.1 pc = .ok (.lor, 1))  (hn : pc + 1 = n) (k : Go l y n L (.long (x ||| z) :: S) h Q) : Go l y pc L (.long z :: .long x :: S) h Q := by
  subst hn
  exact Go.s0 (fun p e R s m args below meth c b D kA H locs cells slots ls Qf C hf ho hc hs hR hl kk => lv_lor C.1 C.2.1 d (kk ls hl)) k
theorem g_lshl {x : Int64} {z : Int32} (n : Nat) (d : decode y.2.1 pc = .ok (.lshl, 1))  (hn : pc + 1 = n) (k : Go l y n L (.long (x <<< (z.toInt64 &&& 63)) :: S) h Q) : Go l y pc L (.int z :: .long x :: S) h Q := by
  subst hn
  exact Go.s0 (fun p e R s m args below meth c b D kA H locs cells slots ls Qf C hf ho hc hs hR hl kk => lv_lshl C.1 C.2.1 d rfl (kk ls hl)) k
theorem g_lshr {x : Int64} {z : Int32} (n : Nat) (d : decode y.2.1 pc = .ok (.lshr, 1))  (hn : pc + 1 = n) (k : Go l y n L (.long (x >>> (z.toInt64 &&& 63)) :: S) h Q) : Go l y pc L (.int z :: .long x :: S) h Q := by
  subst hn
  exact Go.s0 (fun p e R s m args below meth c b D kA H locs cells slots ls Qf C hf ho hc hs hR hl kk => lv_lshr C.1 C.2.1 d rfl (kk ls hl)) k
theorem g_lushr {x : Int64} {z : Int32} (n : Nat) (d : decode y.2.1 pc = .ok (.lushr, 1))  (hn : pc + 1 = n) (k : Go l y n L (.long ((x.toUInt64 >>> (z.toInt64.toUInt64 &&& Int64.toUInt64 63)).toInt64) :: S) h Q) : Go l y pc L (.int z :: .long x :: S) h Q := by
  subst hn
  exact Go.s0 (fun p e R s m args below meth c b D kA H locs cells slots ls Qf C hf ho hc hs hR hl kk => lv_lushr C.1 C.2.1 d rfl (kk ls hl)) k
theorem g_i2l {x : Int32} (n : Nat) (d : decode y.2.1 pc = .ok (.i2l, 1))  (hn : pc + 1 = n) (k : Go l y n L (.long x.toInt64 :: S) h Q) : Go l y pc L (.int x :: S) h Q := by
  subst hn
  exact Go.s0 (fun p e R s m args below meth c b D kA H locs cells slots ls Qf C hf ho hc hs hR hl kk => lv_i2l C.1 C.2.1 d rfl (kk ls hl)) k
theorem g_l2i {x : Int64} (n : Nat) (d : decode y.2.1 pc = .ok (.l2i, 1))  (hn : pc + 1 = n) (k : Go l y n L (.int x.toInt32 :: S) h Q) : Go l y pc L (.long x :: S) h Q := by
  subst hn
  exact Go.s0 (fun p e R s m args below meth c b D kA H locs cells slots ls Qf C hf ho hc hs hR hl kk => lv_l2i C.1 C.2.1 d rfl (kk ls hl)) k
theorem g_i2b {x : Int32} (n : Nat) (d : decode y.2.1 pc = .ok (.i2b, 1))  (hn : pc + 1 = n) (k : Go l y n L (.int x.toInt8.toInt32 :: S) h Q) : Go l y pc L (.int x :: S) h Q := by
  subst hn
  exact Go.s0 (fun p e R s m args below meth c b D kA H locs cells slots ls Qf C hf ho hc hs hR hl kk => lv_i2b C.1 C.2.1 d rfl (kk ls hl)) k
theorem g_lcmp {x z : Int64} (n : Nat) (d : decode y.2.1 pc = .ok (.lcmp, 1))  (hn : pc + 1 = n) (k : Go l y n L (.int (lg_cmp x z) :: S) h Q) : Go l y pc L (.long z :: .long x :: S) h Q := by
  subst hn
  exact Go.s0 (fun p e R s m args below meth c b D kA H locs cells slots ls Qf C hf ho hc hs hR hl kk => W.lcmp C.1 C.2.1 d (kk ls hl)) k
theorem g_iconst {i : Int} {v : Int32} (n : Nat) (d : decode y.2.1 pc = .ok (.iconst i, 1)) (hv : Int32.ofInt i = v) (hn : pc + 1 = n) (k : Go l y n L (.int v :: S) h Q) : Go l y pc L (S) h Q := by
  subst hn
  exact Go.s0 (fun p e R s m args below meth c b D kA H locs cells slots ls Qf C hf ho hc hs hR hl kk => lv_iconst C.1 C.2.1 d hv (kk ls hl)) k
theorem g_bipush {i : Int} {v : Int32} (n : Nat) (d : decode y.2.1 pc = .ok (.bipush i, 2)) (hv : (Int8.ofInt i).toInt32 = v) (hn : pc + 2 = n) (k : Go l y n L (.int v :: S) h Q) : Go l y pc L (S) h Q := by
  subst hn
  exact Go.s0 (fun p e R s m args below meth c b D kA H locs cells slots ls Qf C hf ho hc hs hR hl kk => lv_bipush C.1 C.2.1 d hv (kk ls hl)) k
theorem g_sipush {i : Int} {v : Int32} (n : Nat) (d : decode y.2.1 pc = .ok (.sipush i, 3)) (hv : (Int16.ofInt i).toInt32 = v) (hn : pc + 3 = n) (k : Go l y n L (.int v :: S) h Q) : Go l y pc L (S) h Q := by
  subst hn
  exact Go.s0 (fun p e R s m args below meth c b D kA H locs cells slots ls Qf C hf ho hc hs hR hl kk => lv_sipush C.1 C.2.1 d hv (kk ls hl)) k
theorem g_lconst {i : Fin 2} {v : Int64} (n : Nat) (d : decode y.2.1 pc = .ok (.lconst i, 1)) (hv : Int64.ofNat (i : Nat) = v) (hn : pc + 1 = n) (k : Go l y n L (.long v :: S) h Q) : Go l y pc L (S) h Q := by
  subst hn
  exact Go.s0 (fun p e R s m args below meth c b D kA H locs cells slots ls Qf C hf ho hc hs hR hl kk => lv_lconst C.1 C.2.1 d hv (kk ls hl)) k
theorem g_null  (n : Nat) (d : decode y.2.1 pc = .ok (.aconst_null, 1))  (hn : pc + 1 = n) (k : Go l y n L (.null :: S) h Q) : Go l y pc L (S) h Q := by
  subst hn
  exact Go.s0 (fun p e R s m args below meth c b D kA H locs cells slots ls Qf C hf ho hc hs hR hl kk => lv_null C.1 C.2.1 d (kk ls hl)) k
theorem g_ldc {i : Nat} {v : Int32} (n : Nat) (d : decode y.2.1 pc = .ok (.ldc i, 2)) (hw : Cond.constant y.1.cls i v ∈ gw) (hn : pc + 2 = n) (k : Go l y n L (.int v :: S) h Q) : Go l y pc L (S) h Q := by
  subst hn
  exact Go.s0 (fun p e R s m args below meth c b D kA H locs cells slots ls Qf C hf ho hc hs hR hl kk => lv_ldc C.1 C.2.1 C.2.2.2.1 (C.2.2.2.2.1 _ hw) d (kk ls hl)) k
theorem g_ldc2 {i : Nat} {v : Int64} (n : Nat) (d : decode y.2.1 pc = .ok (.ldc2_w i, 3)) (hw : Cond.constantLong y.1.cls i v ∈ gw) (hn : pc + 3 = n) (k : Go l y n L (.long v :: S) h Q) : Go l y pc L (S) h Q := by
  subst hn
  exact Go.s0 (fun p e R s m args below meth c b D kA H locs cells slots ls Qf C hf ho hc hs hR hl kk => lv_ldc2 C.1 C.2.1 C.2.2.2.1 (C.2.2.2.2.1 _ hw) d (kk ls hl)) k
theorem g_iload_n {i : Fin 4} {x : Int32} (n : Nat) (d : decode y.2.1 pc = .ok (.iload_n i, 1)) (hg : L[(i : Nat)]? = some (some (.int x))) (hn : pc + 1 = n) (k : Go l y n L (.int x :: S) h Q) : Go l y pc L (S) h Q := by
  subst hn
  exact Go.s0 (fun p e R s m args below meth c b D kA H locs cells slots ls Qf C hf ho hc hs hR hl kk => lv_iload_n C.1 C.2.1 d rfl (hl.2.2 _ _ hg) (kk ls hl)) k
theorem g_iload {i : Nat} {x : Int32} (n : Nat) (d : decode y.2.1 pc = .ok (.iload i, 2)) (hg : L[i]? = some (some (.int x))) (hn : pc + 2 = n) (k : Go l y n L (.int x :: S) h Q) : Go l y pc L (S) h Q := by
  subst hn
  exact Go.s0 (fun p e R s m args below meth c b D kA H locs cells slots ls Qf C hf ho hc hs hR hl kk => lv_iload C.1 C.2.1 d (hl.2.2 _ _ hg) (kk ls hl)) k
theorem g_lload_n {i : Fin 4} {x : Int64} (n : Nat) (d : decode y.2.1 pc = .ok (.lload_n i, 1)) (hg : L[(i : Nat)]? = some (some (.long x))) (hn : pc + 1 = n) (k : Go l y n L (.long x :: S) h Q) : Go l y pc L (S) h Q := by
  subst hn
  exact Go.s0 (fun p e R s m args below meth c b D kA H locs cells slots ls Qf C hf ho hc hs hR hl kk => lv_lload_n C.1 C.2.1 d rfl (hl.2.2 _ _ hg) (kk ls hl)) k
theorem g_lload {i : Nat} {x : Int64} (n : Nat) (d : decode y.2.1 pc = .ok (.lload i, 2)) (hg : L[i]? = some (some (.long x))) (hn : pc + 2 = n) (k : Go l y n L (.long x :: S) h Q) : Go l y pc L (S) h Q := by
  subst hn
  exact Go.s0 (fun p e R s m args below meth c b D kA H locs cells slots ls Qf C hf ho hc hs hR hl kk => lv_lload C.1 C.2.1 d (hl.2.2 _ _ hg) (kk ls hl)) k
theorem g_aload_n {i : Fin 4} {x : Nat} (n : Nat) (d : decode y.2.1 pc = .ok (.aload_n i, 1)) (hg : L[(i : Nat)]? = some (some (.ref x))) (hn : pc + 1 = n) (k : Go l y n L (.ref x :: S) h Q) : Go l y pc L (S) h Q := by
  subst hn
  exact Go.s0 (fun p e R s m args below meth c b D kA H locs cells slots ls Qf C hf ho hc hs hR hl kk => lv_aload_n C.1 C.2.1 d rfl (hl.2.2 _ _ hg) (kk ls hl)) k
theorem g_aload {i : Nat} {x : Nat} (n : Nat) (d : decode y.2.1 pc = .ok (.aload i, 2)) (hg : L[i]? = some (some (.ref x))) (hn : pc + 2 = n) (k : Go l y n L (.ref x :: S) h Q) : Go l y pc L (S) h Q := by
  subst hn
  exact Go.s0 (fun p e R s m args below meth c b D kA H locs cells slots ls Qf C hf ho hc hs hR hl kk => lv_aload C.1 C.2.1 d (hl.2.2 _ _ hg) (kk ls hl)) k
theorem g_aload_nN {i : Fin 4} (n : Nat) (d : decode y.2.1 pc = .ok (.aload_n i, 1)) (hg : L[(i : Nat)]? = some (some .null)) (hn : pc + 1 = n) (k : Go l y n L (.null :: S) h Q) : Go l y pc L (S) h Q := by
  subst hn
  exact Go.s0 (fun p e R s m args below meth c b D kA H locs cells slots ls Qf C hf ho hc hs hR hl kk => lv_aload_nN C.1 C.2.1 d rfl (hl.2.2 _ _ hg) (kk ls hl)) k
theorem g_aloadN {i : Nat} (n : Nat) (d : decode y.2.1 pc = .ok (.aload i, 2)) (hg : L[i]? = some (some .null)) (hn : pc + 2 = n) (k : Go l y n L (.null :: S) h Q) : Go l y pc L (S) h Q := by
  subst hn
  exact Go.s0 (fun p e R s m args below meth c b D kA H locs cells slots ls Qf C hf ho hc hs hR hl kk => lv_aloadN C.1 C.2.1 d (hl.2.2 _ _ hg) (kk ls hl)) k
theorem g_istore_n {i : Fin 4} {x : Int32} {L1 : ML} (n : Nat) (d : decode y.2.1 pc = .ok (.istore_n i, 1)) (hi : (i : Nat) < y.2.2.1) (hok : Lok L i = true) (hL : L.set i (some (.int x)) = L1) (hn : pc + 1 = n) (k : Go l y n L1 (S) h Q) : Go l y pc L (.int x :: S) h Q := by
  subst hn
  exact Go.s0 (fun p e R s m args below meth c b D kA H locs cells slots ls Qf C hf ho hc hs hR hl kk => lv_istore_n C.1 C.2.1 d rfl hl.has hi rfl (fun ls1 h1 => kk ls1 (by rw [← hL]; exact Lh.put1 (v := .int x) hok h1))) k
theorem g_istore {i : Nat} {x : Int32} {L1 : ML} (n : Nat) (d : decode y.2.1 pc = .ok (.istore i, 2)) (hi : i < y.2.2.1) (hok : Lok L i = true) (hL : L.set i (some (.int x)) = L1) (hn : pc + 2 = n) (k : Go l y n L1 (S) h Q) : Go l y pc L (.int x :: S) h Q := by
  subst hn
  exact Go.s0 (fun p e R s m args below meth c b D kA H locs cells slots ls Qf C hf ho hc hs hR hl kk => lv_istore C.1 C.2.1 d hl.has hi rfl (fun ls1 h1 => kk ls1 (by rw [← hL]; exact Lh.put1 (v := .int x) hok h1))) k
theorem g_astore_n {i : Fin 4} {x : Nat} {L1 : ML} (n : Nat) (d : decode y.2.1 pc = .ok (.astore_n i, 1)) (hi : (i : Nat) < y.2.2.1) (hok : Lok L i = true) (hL : L.set i (some (.ref x)) = L1) (hn : pc + 1 = n) (k : Go l y n L1 (S) h Q) : Go l y pc L (.ref x :: S) h Q := by
  subst hn
  exact Go.s0 (fun p e R s m args below meth c b D kA H locs cells slots ls Qf C hf ho hc hs hR hl kk => lv_astore_n C.1 C.2.1 d rfl hl.has hi rfl (fun ls1 h1 => kk ls1 (by rw [← hL]; exact Lh.put1 (v := .ref x) hok h1))) k
theorem g_astore {i : Nat} {x : Nat} {L1 : ML} (n : Nat) (d : decode y.2.1 pc = .ok (.astore i, 2)) (hi : i < y.2.2.1) (hok : Lok L i = true) (hL : L.set i (some (.ref x)) = L1) (hn : pc + 2 = n) (k : Go l y n L1 (S) h Q) : Go l y pc L (.ref x :: S) h Q := by
  subst hn
  exact Go.s0 (fun p e R s m args below meth c b D kA H locs cells slots ls Qf C hf ho hc hs hR hl kk => lv_astore C.1 C.2.1 d hl.has hi rfl (fun ls1 h1 => kk ls1 (by rw [← hL]; exact Lh.put1 (v := .ref x) hok h1))) k
theorem g_astore_nN {i : Fin 4} {L1 : ML} (n : Nat) (d : decode y.2.1 pc = .ok (.astore_n i, 1)) (hi : (i : Nat) < y.2.2.1) (hok : Lok L i = true) (hL : L.set i (some .null) = L1) (hn : pc + 1 = n) (k : Go l y n L1 (S) h Q) : Go l y pc L (.null :: S) h Q := by
  subst hn
  exact Go.s0 (fun p e R s m args below meth c b D kA H locs cells slots ls Qf C hf ho hc hs hR hl kk => lv_astore_nN C.1 C.2.1 d rfl hl.has hi rfl (fun ls1 h1 => kk ls1 (by rw [← hL]; exact Lh.put1 (v := .null) hok h1))) k
theorem g_astoreN {i : Nat} {L1 : ML} (n : Nat) (d : decode y.2.1 pc = .ok (.astore i, 2)) (hi : i < y.2.2.1) (hok : Lok L i = true) (hL : L.set i (some .null) = L1) (hn : pc + 2 = n) (k : Go l y n L1 (S) h Q) : Go l y pc L (.null :: S) h Q := by
  subst hn
  exact Go.s0 (fun p e R s m args below meth c b D kA H locs cells slots ls Qf C hf ho hc hs hR hl kk => lv_astoreN C.1 C.2.1 d hl.has hi rfl (fun ls1 h1 => kk ls1 (by rw [← hL]; exact Lh.put1 (v := .null) hok h1))) k
theorem g_lstore_n {i : Fin 4} {x : Int64} {L1 : ML} (n : Nat) (d : decode y.2.1 pc = .ok (.lstore_n i, 1)) (hi : (i : Nat) + 1 < y.2.2.1) (hok : Lok L i = true) (hL : (L.set i (some (.long x))).set (i + 1) none = L1) (hn : pc + 1 = n) (k : Go l y n L1 (S) h Q) : Go l y pc L (.long x :: S) h Q := by
  subst hn
  exact Go.s0 (fun p e R s m args below meth c b D kA H locs cells slots ls Qf C hf ho hc hs hR hl kk => lv_lstore_n C.1 C.2.1 d rfl hl.has hi rfl (fun ls1 h1 => kk ls1 (by rw [← hL]; exact Lh.put2 (v := .long x) hok h1))) k
theorem g_lstore {i : Nat} {x : Int64} {L1 : ML} (n : Nat) (d : decode y.2.1 pc = .ok (.lstore i, 2)) (hi : i + 1 < y.2.2.1) (hok : Lok L i = true) (hL : (L.set i (some (.long x))).set (i + 1) none = L1) (hn : pc + 2 = n) (k : Go l y n L1 (S) h Q) : Go l y pc L (.long x :: S) h Q := by
  subst hn
  exact Go.s0 (fun p e R s m args below meth c b D kA H locs cells slots ls Qf C hf ho hc hs hR hl kk => lv_lstore C.1 C.2.1 d hl.has hi rfl (fun ls1 h1 => kk ls1 (by rw [← hL]; exact Lh.put2 (v := .long x) hok h1))) k
theorem g_iinc {i : Nat} {j : Int} {x v : Int32} {L1 : ML} (n : Nat) (d : decode y.2.1 pc = .ok (.iinc i j, 3)) (hg : L[i]? = some (some (.int x))) (hv : x + Int32.ofInt j = v) (hi : i < y.2.2.1) (hok : Lok L i = true) (hL : L.set i (some (.int v)) = L1) (hn : pc + 3 = n) (k : Go l y n L1 S h Q) : Go l y pc L S h Q := by
  subst hn
  refine Go.s0 (fun p e R s m args below meth c b D kA H locs cells slots ls Qf C hf ho hc hs hR hl kk => ?_) k
  obtain ⟨q, hq⟩ := List.getElem?_of_mem (al_mem (b := b) hg)
  exact lv_iinc C.1 C.2.1 d hl.has hq hv hi rfl (fun ls1 h1 => kk ls1 (by rw [← hL]; exact Lh.put1 (v := .int v) hok h1))
theorem g_dup {v : Value} (n : Nat) (d : decode y.2.1 pc = .ok (.dup, 1)) (hv : v.category = 1) (hn : pc + 1 = n) (k : Go l y n L (v :: v :: S) h Q) : Go l y pc L (v :: S) h Q := by
  subst hn
  exact Go.s0 (fun p e R s m args below meth c b D kA H locs cells slots ls Qf C hf ho hc hs hR hl kk => lv_dup C.1 C.2.1 d ((mv_cat b v).trans hv) (kk ls hl)) k
theorem g_dup2 {v w : Value} (n : Nat) (d : decode y.2.1 pc = .ok (.dup2, 1)) (hv : v.category = 1) (hw : w.category = 1) (hn : pc + 1 = n) (k : Go l y n L (v :: w :: v :: w :: S) h Q) : Go l y pc L (v :: w :: S) h Q := by
  subst hn
  exact Go.s0 (fun p e R s m args below meth c b D kA H locs cells slots ls Qf C hf ho hc hs hR hl kk => lv_dup2_11 C.1 C.2.1 d ((mv_cat b v).trans hv) ((mv_cat b w).trans hw) (kk ls hl)) k
theorem g_pop {v : Value} (n : Nat) (d : decode y.2.1 pc = .ok (.pop, 1)) (hv : v.category = 1) (hn : pc + 1 = n) (k : Go l y n L (S) h Q) : Go l y pc L (v :: S) h Q := by
  subst hn
  exact Go.s0 (fun p e R s m args below meth c b D kA H locs cells slots ls Qf C hf ho hc hs hR hl kk => lv_pop C.1 C.2.1 d ((mv_cat b v).trans hv) (kk ls hl)) k
theorem Go.fork {pt pf : Nat} {S1 : List Value} {c0 : Prop} [Decidable c0]
    (hW : ∀ (p : Program) (e : Env) (R : Room) (s : State) (m : MethodId) (args : Array Value) (below : List Frame) (meth : Method) (c : Code) (b : Nat) (D : va_G) (kA : Nat → ClassId) (H : Heap) (locs : List Loc) (cells slots : Nat) (ls : Array Slot) (Qf : State → Prop),
      Cx y p s m args meth c b D kA → (c0 → W p l e R s m args below meth c H locs cells slots Qf (F0 m pt ls (S1.map (mv b)))) → (¬ c0 → W p l e R s m args below meth c H locs cells slots Qf (F0 m pf ls (S1.map (mv b)))) →
      W p l e R s m args below meth c H locs cells slots Qf (F0 m pc ls (S.map (mv b))))
    (kt : c0 → Go l y pt L S1 h Q) (kf : ¬ c0 → Go l y pf L S1 h Q) : Go l y pc L S h Q := by
  by_cases hc0 : c0
  · exact Go.s0 (fun p e R s m args below meth c b D kA H locs cells slots ls Qf C hf ho hc hs hR hl kk => hW p e R s m args below meth c b D kA H locs cells slots ls Qf C (fun _ => kk ls hl) (fun q => absurd hc0 q)) (kt hc0)
  · exact Go.s0 (fun p e R s m args below meth c b D kA H locs cells slots ls Qf C hf ho hc hs hR hl kk => hW p e R s m args below meth c b D kA H locs cells slots ls Qf C (fun q => absurd q hc0) (fun _ => kk ls hl)) (kf hc0)
theorem g_if_eq {x : Int32} {off : Int} (t n : Nat) (d : decode y.2.1 pc = .ok (.ifCond .eq off, 3)) (ht : (pc : Int) + off = (t : Int)) (hn : pc + 3 = n) (kt : x = 0 → Go l y t L S h Q) (kf : ¬ x = 0 → Go l y n L S h Q) : Go l y pc L (.int x :: S) h Q := by
  subst hn
  exact Go.fork (fun p e R s m args below meth c b D kA H locs cells slots ls Qf C ut uf => lv_if_eq C.1 C.2.1 d ht ut uf) kt kf
theorem g_icmp_eq {x z : Int32} {off : Int} (t n : Nat) (d : decode y.2.1 pc = .ok (.if_icmp .eq off, 3)) (ht : (pc : Int) + off = (t : Int)) (hn : pc + 3 = n) (kt : x = z → Go l y t L S h Q) (kf : ¬ x = z → Go l y n L S h Q) : Go l y pc L (.int z :: .int x :: S) h Q := by
  subst hn
  exact Go.fork (fun p e R s m args below meth c b D kA H locs cells slots ls Qf C ut uf => lv_icmp_eq C.1 C.2.1 d ht ut uf) kt kf
theorem g_if_ne {x : Int32} {off : Int} (t n : Nat) (d : decode y.2.1 pc = .ok (.ifCond .ne off, 3)) (ht : (pc : Int) + off = (t : Int)) (hn : pc + 3 = n) (kt : ¬ x = 0 → Go l y t L S h Q) (kf : x = 0 → Go l y n L S h Q) : Go l y pc L (.int x :: S) h Q := by
  subst hn
  exact Go.fork (fun p e R s m args below meth c b D kA H locs cells slots ls Qf C ut uf => lv_if_ne C.1 C.2.1 d ht ut (fun q => uf (not_not_intro q))) kt (fun q => kf (Decidable.of_not_not q))
theorem g_icmp_ne {x z : Int32} {off : Int} (t n : Nat) (d : decode y.2.1 pc = .ok (.if_icmp .ne off, 3)) (ht : (pc : Int) + off = (t : Int)) (hn : pc + 3 = n) (kt : ¬ x = z → Go l y t L S h Q) (kf : x = z → Go l y n L S h Q) : Go l y pc L (.int z :: .int x :: S) h Q := by
  subst hn
  exact Go.fork (fun p e R s m args below meth c b D kA H locs cells slots ls Qf C ut uf => lv_icmp_ne C.1 C.2.1 d ht ut (fun q => uf (not_not_intro q))) kt (fun q => kf (Decidable.of_not_not q))
theorem g_if_lt {x : Int32} {off : Int} (t n : Nat) (d : decode y.2.1 pc = .ok (.ifCond .lt off, 3)) (ht : (pc : Int) + off = (t : Int)) (hn : pc + 3 = n) (kt : x < 0 → Go l y t L S h Q) (kf : ¬ x < 0 → Go l y n L S h Q) : Go l y pc L (.int x :: S) h Q := by
  subst hn
  exact Go.fork (fun p e R s m args below meth c b D kA H locs cells slots ls Qf C ut uf => lv_if_lt C.1 C.2.1 d ht ut uf) kt kf
theorem g_icmp_lt {x z : Int32} {off : Int} (t n : Nat) (d : decode y.2.1 pc = .ok (.if_icmp .lt off, 3)) (ht : (pc : Int) + off = (t : Int)) (hn : pc + 3 = n) (kt : x < z → Go l y t L S h Q) (kf : ¬ x < z → Go l y n L S h Q) : Go l y pc L (.int z :: .int x :: S) h Q := by
  subst hn
  exact Go.fork (fun p e R s m args below meth c b D kA H locs cells slots ls Qf C ut uf => lv_icmp_lt C.1 C.2.1 d ht ut uf) kt kf
theorem g_if_ge {x : Int32} {off : Int} (t n : Nat) (d : decode y.2.1 pc = .ok (.ifCond .ge off, 3)) (ht : (pc : Int) + off = (t : Int)) (hn : pc + 3 = n) (kt : 0 ≤ x → Go l y t L S h Q) (kf : ¬ 0 ≤ x → Go l y n L S h Q) : Go l y pc L (.int x :: S) h Q := by
  subst hn
  exact Go.fork (fun p e R s m args below meth c b D kA H locs cells slots ls Qf C ut uf => lv_if_ge C.1 C.2.1 d ht ut uf) kt kf
theorem g_icmp_ge {x z : Int32} {off : Int} (t n : Nat) (d : decode y.2.1 pc = .ok (.if_icmp .ge off, 3)) (ht : (pc : Int) + off = (t : Int)) (hn : pc + 3 = n) (kt : z ≤ x → Go l y t L S h Q) (kf : ¬ z ≤ x → Go l y n L S h Q) : Go l y pc L (.int z :: .int x :: S) h Q := by
  subst hn
  exact Go.fork (fun p e R s m args below meth c b D kA H locs cells slots ls Qf C ut uf => lv_icmp_ge C.1 C.2.1 d ht ut uf) kt kf
theorem g_if_gt {x : Int32} {off : Int} (t n : Nat) (d : decode y.2.1 pc = .ok (.ifCond .gt off, 3)) (ht : (pc : Int) + off = (t : Int)) (hn : pc + 3 = n) (kt : 0 < x → Go l y t L S h Q) (kf : ¬ 0 < x → Go l y n L S h Q) : Go l y pc L (.int x :: S) h Q := by
  subst hn
  exact Go.fork (fun p e R s m args below meth c b D kA H locs cells slots ls Qf C ut uf => lv_if_gt C.1 C.2.1 d ht ut uf) kt kf
theorem g_icmp_gt {x z : Int32} {off : Int} (t n : Nat) (d : decode y.2.1 pc = .ok (.if_icmp .gt off, 3)) (ht : (pc : Int) + off = (t : Int)) (hn : pc + 3 = n) (kt : z < x → Go l y t L S h Q) (kf : ¬ z < x → Go l y n L S h Q) : Go l y pc L (.int z :: .int x :: S) h Q := by
  subst hn
  exact Go.fork (fun p e R s m args below meth c b D kA H locs cells slots ls Qf C ut uf => lv_icmp_gt C.1 C.2.1 d ht ut uf) kt kf
theorem g_if_le {x : Int32} {off : Int} (t n : Nat) (d : decode y.2.1 pc = .ok (.ifCond .le off, 3)) (ht : (pc : Int) + off = (t : Int)) (hn : pc + 3 = n) (kt : x ≤ 0 → Go l y t L S h Q) (kf : ¬ x ≤ 0 → Go l y n L S h Q) : Go l y pc L (.int x :: S) h Q := by
  subst hn
  exact Go.fork (fun p e R s m args below meth c b D kA H locs cells slots ls Qf C ut uf => lv_if_le C.1 C.2.1 d ht ut uf) kt kf
theorem g_icmp_le {x z : Int32} {off : Int} (t n : Nat) (d : decode y.2.1 pc = .ok (.if_icmp .le off, 3)) (ht : (pc : Int) + off = (t : Int)) (hn : pc + 3 = n) (kt : x ≤ z → Go l y t L S h Q) (kf : ¬ x ≤ z → Go l y n L S h Q) : Go l y pc L (.int z :: .int x :: S) h Q := by
  subst hn
  exact Go.fork (fun p e R s m args below meth c b D kA H locs cells slots ls Qf C ut uf => lv_icmp_le C.1 C.2.1 d ht ut uf) kt kf
theorem g_goto {off : Int} (t : Nat) (d : decode y.2.1 pc = .ok (.goto off, 3)) (ht : (pc : Int) + off = (t : Int)) (k : Go l y t L S h Q) : Go l y pc L S h Q :=
  Go.s0 (fun p e R s m args below meth c b D kA H locs cells slots ls Qf C hf ho hc hs hR hl kk => lv_goto C.1 C.2.1 d ht (kk ls hl)) k
theorem g_ifnull {x : Nat} {off : Int} (n : Nat) (d : decode y.2.1 pc = .ok (.ifnull off, 3)) (hn : pc + 3 = n) (k : Go l y n L S h Q) : Go l y pc L (.ref x :: S) h Q := by
  subst hn
  exact Go.s0 (fun p e R s m args below meth c b D kA H locs cells slots ls Qf C hf ho hc hs hR hl kk => lv_ifnull C.1 C.2.1 d (kk ls hl)) k
theorem g_ifnullN {off : Int} (t : Nat) (d : decode y.2.1 pc = .ok (.ifnull off, 3)) (ht : (pc : Int) + off = (t : Int)) (k : Go l y t L S h Q) : Go l y pc L (.null :: S) h Q :=
  Go.s0 (fun p e R s m args below meth c b D kA H locs cells slots ls Qf C hf ho hc hs hR hl kk => lv_ifnullN C.1 C.2.1 d ht (kk ls hl)) k
theorem g_ifnonnull {x : Nat} {off : Int} (t : Nat) (d : decode y.2.1 pc = .ok (.ifnonnull off, 3)) (ht : (pc : Int) + off = (t : Int)) (k : Go l y t L S h Q) : Go l y pc L (.ref x :: S) h Q :=
  Go.s0 (fun p e R s m args below meth c b D kA H locs cells slots ls Qf C hf ho hc hs hR hl kk => lv_ifnonnull C.1 C.2.1 d ht (kk ls hl)) k
theorem g_ifnonnullN {off : Int} (n : Nat) (d : decode y.2.1 pc = .ok (.ifnonnull off, 3)) (hn : pc + 3 = n) (k : Go l y n L S h Q) : Go l y pc L (.null :: S) h Q := by
  subst hn
  exact Go.s0 (fun p e R s m args below meth c b D kA H locs cells slots ls Qf C hf ho hc hs hR hl kk => lv_ifnonnullN C.1 C.2.1 d (kk ls hl)) k
/-- a table: outside of it -/
theorem g_tabOut {dflt lo hi : Int} {offs : Array Int} {len : Nat} {x : Int32} (t : Nat) (d : decode y.2.1 pc = .ok (.tableswitch dflt lo hi offs, len)) (hx : x.toInt < lo ∨ hi < x.toInt) (ht : (pc : Int) + dflt = (t : Int)) (k : Go l y t L S h Q) : Go l y pc L (.int x :: S) h Q :=
  Go.s0 (fun p e R s m args below meth c b D kA H locs cells slots ls Qf C hf ho hc hs hR hl kk => lv_tableOut C.1 C.2.1 d hx ht (kk ls hl)) k
theorem g_tabIn {dflt lo hi : Int} {offs : Array Int} {len : Nat} {x : Int32} {off : Int} (t : Nat) (d : decode y.2.1 pc = .ok (.tableswitch dflt lo hi offs, len)) (h1 : ¬ x.toInt < lo) (h2 : ¬ hi < x.toInt) (hof : offs[(x.toInt - lo).toNat]? = some off) (ht : (pc : Int) + off = (t : Int)) (k : Go l y t L S h Q) : Go l y pc L (.int x :: S) h Q :=
  Go.s0 (fun p e R s m args below meth c b D kA H locs cells slots ls Qf C hf ho hc hs hR hl kk => lv_tableIn C.1 C.2.1 d h1 h2 hof ht (kk ls hl)) k
theorem g_min {i : Nat} {x z : Int32} (n : Nat) (d : decode y.2.1 pc = .ok (.invokestatic i, 3)) (hw : Cond.methodLink y.1.cls i Lib.Math.min.name ∈ gw) (hw2 : Cond.static Lib.Math.min.name ∈ gw) (hw3 : Cond.initialized "java/lang/Math" ∈ gw) (hw4 : Cond.code Lib.Math.min.name Lib.Math.min.code 2 (some .int) ∈ gw) (h1 : 1 ≤ y.2.2.2.2.1) (h2 : (S.map fun v => v.category).sum + 13 ≤ y.2.2.2.2.2) (hn : pc + 3 = n) (k : Go l y n L (.int (if z < x then z else x) :: S) h Q) : Go l y pc L (.int z :: .int x :: S) h Q := by
  subst hn
  refine Go.s0 (fun p e R s m args below meth c b D kA H locs cells slots ls Qf C hf ho hc hs hR hl kk => ?_) k
  have e1 : ((S.map (mv b)).map fun v => v.category) = S.map fun v => v.category := by simp [mv_cat]
  exact va_mmin C.1 C.2.1 (C.2.2.1.trans hl.1.symm) C.2.2.2.1 (C.2.2.2.2.1 _ hw) (C.2.2.2.2.1 _ hw2) (C.2.2.2.2.1 _ hw3) (C.2.2.2.2.1 _ hw4) (Nat.le_trans h1 hf) (by rw [e1]; exact Nat.le_trans h2 ho) hc hs d (kk ls hl)
theorem g_max {i : Nat} {x z : Int32} (n : Nat) (d : decode y.2.1 pc = .ok (.invokestatic i, 3)) (hw : Cond.methodLink y.1.cls i Lib.Math.max.name ∈ gw) (hw2 : Cond.static Lib.Math.max.name ∈ gw) (hw3 : Cond.initialized "java/lang/Math" ∈ gw) (hw4 : Cond.code Lib.Math.max.name Lib.Math.max.code 2 (some .int) ∈ gw) (h1 : 1 ≤ y.2.2.2.2.1) (h2 : (S.map fun v => v.category).sum + 13 ≤ y.2.2.2.2.2) (hn : pc + 3 = n) (k : Go l y n L (.int (if x < z then z else x) :: S) h Q) : Go l y pc L (.int z :: .int x :: S) h Q := by
  subst hn
  refine Go.s0 (fun p e R s m args below meth c b D kA H locs cells slots ls Qf C hf ho hc hs hR hl kk => ?_) k
  have e1 : ((S.map (mv b)).map fun v => v.category) = S.map fun v => v.category := by simp [mv_cat]
  exact va_mmax C.1 C.2.1 (C.2.2.1.trans hl.1.symm) C.2.2.2.1 (C.2.2.2.2.1 _ hw) (C.2.2.2.2.1 _ hw2) (C.2.2.2.2.1 _ hw3) (C.2.2.2.2.1 _ hw4) (Nat.le_trans h1 hf) (by rw [e1]; exact Nat.le_trans h2 ho) hc hs d (kk ls hl)
/-- Object's constructor -/
theorem g_obj {i a : Nat} (n : Nat) (d : decode y.2.1 pc = .ok (.invokespecial i, 3)) (hw : Cond.methodLink y.1.cls i objectInit ∈ gw) (hw2 : Cond.instanceMethod objectInit ∈ gw) (hw3 : Cond.code objectInit ⟨#[0xb1]⟩ 1 none ∈ gw) (h1 : 1 ≤ y.2.2.2.2.1) (h2 : (S.map fun v => v.category).sum + 12 ≤ y.2.2.2.2.2) (hn : pc + 3 = n) (k : Go l y n L S h Q) : Go l y pc L (.ref a :: S) h Q := by
  subst hn
  refine Go.s0 (fun p e R s m args below meth c b D kA H locs cells slots ls Qf C hf ho hc hs hR hl kk => ?_) k
  have e1 : ((S.map (mv b)).map fun v => v.category) = S.map fun v => v.category := by simp [mv_cat]
  refine W.objInit (rest := S.map (mv b)) (a := b + a) C.1 C.2.1 C.2.2.2.1 (C.2.2.2.2.1 _ hw) (C.2.2.2.2.1 _ hw2) (C.2.2.2.2.1 _ hw3) rfl (hl.1.trans C.2.2.1.symm) rfl d (Nat.le_trans h1 hf) ?_ (kk ls hl)
  show 2 * 0 + _ + 12 ≤ _
  rw [e1]
  have := Nat.le_trans h2 ho
  omega
/-- ends -/
theorem g_iret {x : Int32} (hr : y.2.2.2.1 = some .int) (d : decode y.2.1 pc = .ok (.ireturn, 1)) (hq : Q (some (.int x)) h) : Go l y pc L [.int x] h Q := by
  refine ⟨_, h, hq, Nat.le_refl _, Nat.le_refl _, fun p e R s m args below meth c b D kA H locs cells slots ls C hf ho hc hs hR hS hl => ?_⟩
  simp only [Nat.sub_self, Nat.add_zero]
  have hlk := C.2.2.2.2.2.2.1
  exact W.iret C.1 C.2.1 (C.2.2.2.2.2.1.trans hr) (fun t ht hW => ⟨rfl, by rw [ht]; exact hR, hS.F ht⟩) hS.2.2 d hlk
theorem g_zret {x : Int32} (hr : y.2.2.2.1 = some .boolean) (hx : x = 0 ∨ x = 1) (d : decode y.2.1 pc = .ok (.ireturn, 1)) (hq : Q (some (.int x)) h) : Go l y pc L [.int x] h Q := by
  refine ⟨_, h, hq, Nat.le_refl _, Nat.le_refl _, fun p e R s m args below meth c b D kA H locs cells slots ls C hf ho hc hs hR hS hl => ?_⟩
  simp only [Nat.sub_self, Nat.add_zero]
  have hlk := C.2.2.2.2.2.2.1
  exact W.zret C.1 C.2.1 (C.2.2.2.2.2.1.trans hr) (by rcases hx with rfl | rfl <;> decide) (fun t ht hW => ⟨rfl, by rw [ht]; exact hR, hS.F ht⟩) hS.2.2 d hlk
theorem g_lret {x : Int64} (hr : y.2.2.2.1 = some .long) (d : decode y.2.1 pc = .ok (.lreturn, 1)) (hq : Q (some (.long x)) h) : Go l y pc L [.long x] h Q := by
  refine ⟨_, h, hq, Nat.le_refl _, Nat.le_refl _, fun p e R s m args below meth c b D kA H locs cells slots ls C hf ho hc hs hR hS hl => ?_⟩
  simp only [Nat.sub_self, Nat.add_zero]
  have hlk := C.2.2.2.2.2.2.1
  exact W.lret C.1 C.2.1 (C.2.2.2.2.2.1.trans hr) (fun t ht hW => ⟨rfl, by rw [ht]; exact hR, hS.F ht⟩) hS.2.2 d hlk
theorem g_aret {v : Value} {C0 : String} (hr : y.2.2.2.1 = some (.object C0)) (hv : v = .null ∨ ∃ a, v = .ref a) (d : decode y.2.1 pc = .ok (.areturn, 1)) (hq : Q (some v) h) : Go l y pc L [v] h Q := by
  refine ⟨_, h, hq, Nat.le_refl _, Nat.le_refl _, fun p e R s m args below meth c b D kA H locs cells slots ls C hf ho hc hs hR hS hl => ?_⟩
  simp only [Nat.sub_self, Nat.add_zero]
  have hlk := C.2.2.2.2.2.2.1
  exact W.aret (v := mv b v) C.1 C.2.1 (C.2.2.2.2.2.1.trans hr) (Or.inl ⟨_, rfl⟩) (by rcases hv with rfl | ⟨a, rfl⟩; exact Or.inl rfl; exact Or.inr ⟨_, rfl⟩) (fun t ht hW => ⟨rfl, by rw [ht]; exact hR, hS.F ht⟩) hS.2.2 d hlk
theorem g_vret (hr : y.2.2.2.1 = none) (d : decode y.2.1 pc = .ok (.return_, 1)) (hq : Q none h) : Go l y pc L [] h Q := by
  refine ⟨_, h, hq, Nat.le_refl _, Nat.le_refl _, fun p e R s m args below meth c b D kA H locs cells slots ls C hf ho hc hs hR hS hl => ?_⟩
  simp only [Nat.sub_self, Nat.add_zero]
  have hlk := C.2.2.2.2.2.2.1
  exact W.vret C.1 C.2.1 (C.2.2.2.2.2.1.trans hr) (fun t ht hW => ⟨rfl, by rw [ht]; exact hR, hS.F ht⟩) hS.2.2 d hlk
end RUL
