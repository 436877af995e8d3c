def contG (pc : Nat) : {g : Nat → Decoder Instr // Decoder.instr pc = (Reader.u1 >>= g)} := ⟨_, rfl⟩
def bq (c : ByteArray) (p b : Nat) : Bool := match c.data.toList[p]? with
  | some x => x.toNat == b
  | none => false
theorem bq_u1 {c : ByteArray} {p b : Nat} (h : bq c p b = true) : (Reader.u1 : Decoder Nat) c p = .ok (b, p + 1) := by
  unfold bq at h
  split at h
  · next x hx =>
    obtain ⟨q, hq⟩ := List.getElem?_eq_some_iff.mp hx
    have q' : p < c.size := q
    have e0 : c[p] = x := hq
    have e : c[p].toNat = b := by
      rw [e0]
      simpa using h
    subst e
    show (if h : p < c.size then _ else _ : Decoder Nat) c p = _
    rw [dif_pos q']
    rfl
  · exact absurd h (by decide)
theorem dk_0 {c : ByteArray} {pc op n : Nat} {i : Instr} (h : bq c pc op = true) (e : ((contG pc).1 op : Decoder Instr) c (pc + 1) = .ok (i, pc + n)) : decode c pc = .ok (i, n) := by
  have k : (Decoder.instr pc).runAt c pc = .ok (i, pc + n) := by
    rw [(contG pc).2]
    show (ReaderT.bind _ _ : Decoder Instr) c pc = _
    show ((Reader.u1 : Decoder Nat) c pc >>= fun x => ((contG pc).1 x.1 : Decoder Instr) c x.2) = _
    rw [bq_u1 h]
    exact e
  unfold decode
  rw [k]
  show Except.ok (i, pc + n - pc) = _
  rw [Nat.add_sub_cancel_left]
theorem dk_1 {c : ByteArray} {pc op : Nat} {i : Instr} (h : bq c pc op = true) (e : (contG pc).1 op = (Pure.pure i : Decoder Instr)) : decode c pc = .ok (i, 1) := dk_0 h (by rw [e]; rfl)
theorem u2_r {c : ByteArray} {p a b : Nat} (h1 : bq c p a = true) (h2 : bq c (p + 1) b = true) : (Reader.u2 : Decoder Nat) c p = .ok (a * 256 + b, p + 2) := by
  show ((Reader.u1 : Decoder Nat) c p >>= fun x => ((Reader.u1 : Decoder Nat) c x.2 >>= fun y => .ok (x.1 * 256 + y.1, y.2))) = _
  rw [bq_u1 h1]
  show ((Reader.u1 : Decoder Nat) c (p + 1) >>= fun y => .ok (a * 256 + y.1, y.2)) = _
  rw [bq_u1 h2]
  rfl
theorem dk_u1 {c : ByteArray} {pc op a : Nat} {f : Nat → Instr} (h : (bq c pc op && bq c (pc + 1) a) = true) (e : (contG pc).1 op = (do Pure.pure (f (← Reader.u1)))) : decode c pc = .ok (f a, 2) := by
  simp only [Bool.and_eq_true] at h
  refine dk_0 h.1 ?_
  rw [e]
  show ((Reader.u1 : Decoder Nat) c (pc + 1) >>= fun x => .ok (f x.1, x.2)) = _
  rw [bq_u1 h.2]
  rfl
theorem dk_u2 {c : ByteArray} {pc op a b v : Nat} {f : Nat → Instr} (h : (bq c pc op && bq c (pc + 1) a && bq c (pc + 2) b && (a * 256 + b == v)) = true) (e : (contG pc).1 op = (do Pure.pure (f (← Reader.u2)))) : decode c pc = .ok (f v, 3) := by
  simp only [Bool.and_eq_true, beq_iff_eq] at h
  obtain ⟨⟨⟨h1, h2⟩, h3⟩, h4⟩ := h
  subst h4
  refine dk_0 h1 ?_
  rw [e]
  show ((Reader.u2 : Decoder Nat) c (pc + 1) >>= fun x => .ok (f x.1, x.2)) = _
  rw [u2_r h2 h3]
  rfl
theorem s2_r {c : ByteArray} {p a b : Nat} (h1 : bq c p a = true) (h2 : bq c (p + 1) b = true) : (Reader.s2 : Decoder Int) c p = .ok (Reader.signed 16 (a * 256 + b), p + 2) := by
  have k := u2_r h1 h2
  show (StateT.map (Reader.signed 16) ((Reader.u2 : Decoder Nat) c)) p = _
  unfold StateT.map
  rw [k]
  rfl
theorem s1_r {c : ByteArray} {p a : Nat} (h1 : bq c p a = true) : (Reader.s1 : Decoder Int) c p = .ok (Reader.signed 8 a, p + 1) := by
  have k := bq_u1 h1
  show (StateT.map (Reader.signed 8) ((Reader.u1 : Decoder Nat) c)) p = _
  unfold StateT.map
  rw [k]
  rfl
theorem dk_s2 {c : ByteArray} {pc op a b : Nat} {v : Int} {f : Int → Instr} (h : (bq c pc op && bq c (pc + 1) a && bq c (pc + 2) b && (Reader.signed 16 (a * 256 + b) == v)) = true) (e : (contG pc).1 op = (do Pure.pure (f (← Reader.s2)))) : decode c pc = .ok (f v, 3) := by
  simp only [Bool.and_eq_true, beq_iff_eq] at h
  obtain ⟨⟨⟨h1, h2⟩, h3⟩, h4⟩ := h
  subst h4
  refine dk_0 h1 ?_
  rw [e]
  show ((Reader.s2 : Decoder Int) c (pc + 1) >>= fun x => .ok (f x.1, x.2)) = _
  rw [s2_r h2 h3]
  rfl
theorem dk_s1 {c : ByteArray} {pc op a : Nat} {v : Int} {f : Int → Instr} (h : (bq c pc op && bq c (pc + 1) a && (Reader.signed 8 a == v)) = true) (e : (contG pc).1 op = (do Pure.pure (f (← Reader.s1)))) : decode c pc = .ok (f v, 2) := by
  simp only [Bool.and_eq_true, beq_iff_eq] at h
  obtain ⟨⟨h1, h2⟩, h4⟩ := h
  subst h4
  refine dk_0 h1 ?_
  rw [e]
  show ((Reader.s1 : Decoder Int) c (pc + 1) >>= fun x => .ok (f x.1, x.2)) = _
  rw [s1_r h2]
  rfl
set_option maxRecDepth 20000 in
theorem dr_1 {c : ByteArray} {pc : Nat} (h : bq c pc 1 = true) : decode c pc = .ok (.aconst_null, 1) := dk_1 h rfl
set_option maxRecDepth 20000 in
theorem dr_2 {c : ByteArray} {pc : Nat} (h : bq c pc 2 = true) : decode c pc = .ok (.iconst (-1), 1) := dk_1 h rfl
set_option maxRecDepth 20000 in
theorem dr_3 {c : ByteArray} {pc : Nat} (h : bq c pc 3 = true) : decode c pc = .ok (.iconst 0, 1) := dk_1 h rfl
set_option maxRecDepth 20000 in
theorem dr_4 {c : ByteArray} {pc : Nat} (h : bq c pc 4 = true) : decode c pc = .ok (.iconst 1, 1) := dk_1 h rfl
set_option maxRecDepth 20000 in
theorem dr_5 {c : ByteArray} {pc : Nat} (h : bq c pc 5 = true) : decode c pc = .ok (.iconst 2, 1) := dk_1 h rfl
set_option maxRecDepth 20000 in
theorem dr_6 {c : ByteArray} {pc : Nat} (h : bq c pc 6 = true) : decode c pc = .ok (.iconst 3, 1) := dk_1 h rfl
set_option maxRecDepth 20000 in
theorem dr_7 {c : ByteArray} {pc : Nat} (h : bq c pc 7 = true) : decode c pc = .ok (.iconst 4, 1) := dk_1 h rfl
set_option maxRecDepth 20000 in
theorem dr_8 {c : ByteArray} {pc : Nat} (h : bq c pc 8 = true) : decode c pc = .ok (.iconst 5, 1) := dk_1 h rfl
set_option maxRecDepth 20000 in
theorem dr_9 {c : ByteArray} {pc : Nat} (h : bq c pc 9 = true) : decode c pc = .ok (.lconst 0, 1) := dk_1 h rfl
set_option maxRecDepth 20000 in
theorem dr_10 {c : ByteArray} {pc : Nat} (h : bq c pc 10 = true) : decode c pc = .ok (.lconst 1, 1) := dk_1 h rfl
set_option maxRecDepth 20000 in
theorem dr_16 {c : ByteArray} {pc : Nat} {v : Int} (a : Nat) (h : (bq c pc 16 && bq c (pc + 1) a && (Reader.signed 8 a == v)) = true) : decode c pc = .ok (.bipush v, 2) := dk_s1 (f := fun v => .bipush v) h rfl
set_option maxRecDepth 20000 in
theorem dr_17 {c : ByteArray} {pc : Nat} {v : Int} (a b : Nat) (h : (bq c pc 17 && bq c (pc + 1) a && bq c (pc + 2) b && (Reader.signed 16 (a * 256 + b) == v)) = true) : decode c pc = .ok (.sipush v, 3) := dk_s2 (f := fun v => .sipush v) h rfl
set_option maxRecDepth 20000 in
theorem dr_18 {c : ByteArray} {pc a : Nat} (h : (bq c pc 18 && bq c (pc + 1) a) = true) : decode c pc = .ok (.ldc a, 2) := dk_u1 (f := fun v => .ldc v) h rfl
set_option maxRecDepth 20000 in
theorem dr_20 {c : ByteArray} {pc v : Nat} (a b : Nat) (h : (bq c pc 20 && bq c (pc + 1) a && bq c (pc + 2) b && (a * 256 + b == v)) = true) : decode c pc = .ok (.ldc2_w v, 3) := dk_u2 (f := fun v => .ldc2_w v) h rfl
set_option maxRecDepth 20000 in
theorem dr_21 {c : ByteArray} {pc a : Nat} (h : (bq c pc 21 && bq c (pc + 1) a) = true) : decode c pc = .ok (.iload a, 2) := dk_u1 (f := fun v => .iload v) h rfl
set_option maxRecDepth 20000 in
theorem dr_25 {c : ByteArray} {pc a : Nat} (h : (bq c pc 25 && bq c (pc + 1) a) = true) : decode c pc = .ok (.aload a, 2) := dk_u1 (f := fun v => .aload v) h rfl
set_option maxRecDepth 20000 in
theorem dr_26 {c : ByteArray} {pc : Nat} (h : bq c pc 26 = true) : decode c pc = .ok (.iload_n 0, 1) := dk_1 h rfl
set_option maxRecDepth 20000 in
theorem dr_27 {c : ByteArray} {pc : Nat} (h : bq c pc 27 = true) : decode c pc = .ok (.iload_n 1, 1) := dk_1 h rfl
set_option maxRecDepth 20000 in
theorem dr_28 {c : ByteArray} {pc : Nat} (h : bq c pc 28 = true) : decode c pc = .ok (.iload_n 2, 1) := dk_1 h rfl
set_option maxRecDepth 20000 in
theorem dr_29 {c : ByteArray} {pc : Nat} (h : bq c pc 29 = true) : decode c pc = .ok (.iload_n 3, 1) := dk_1 h rfl
set_option maxRecDepth 20000 in
theorem dr_30 {c : ByteArray} {pc : Nat} (h : bq c pc 30 = true) : decode c pc = .ok (.lload_n 0, 1) := dk_1 h rfl
set_option maxRecDepth 20000 in
theorem dr_31 {c : ByteArray} {pc : Nat} (h : bq c pc 31 = true) : decode c pc = .ok (.lload_n 1, 1) := dk_1 h rfl
set_option maxRecDepth 20000 in
theorem dr_33 {c : ByteArray} {pc : Nat} (h : bq c pc 33 = true) : decode c pc = .ok (.lload_n 3, 1) := dk_1 h rfl
set_option maxRecDepth 20000 in
theorem dr_42 {c : ByteArray} {pc : Nat} (h : bq c pc 42 = true) : decode c pc = .ok (.aload_n 0, 1) := dk_1 h rfl
set_option maxRecDepth 20000 in
theorem dr_43 {c : ByteArray} {pc : Nat} (h : bq c pc 43 = true) : decode c pc = .ok (.aload_n 1, 1) := dk_1 h rfl
set_option maxRecDepth 20000 in
theorem dr_44 {c : ByteArray} {pc : Nat} (h : bq c pc 44 = true) : decode c pc = .ok (.aload_n 2, 1) := dk_1 h rfl
set_option maxRecDepth 20000 in
theorem dr_45 {c : ByteArray} {pc : Nat} (h : bq c pc 45 = true) : decode c pc = .ok (.aload_n 3, 1) := dk_1 h rfl
set_option maxRecDepth 20000 in
theorem dr_46 {c : ByteArray} {pc : Nat} (h : bq c pc 46 = true) : decode c pc = .ok (.iaload, 1) := dk_1 h rfl
set_option maxRecDepth 20000 in
theorem dr_50 {c : ByteArray} {pc : Nat} (h : bq c pc 50 = true) : decode c pc = .ok (.aaload, 1) := dk_1 h rfl
set_option maxRecDepth 20000 in
theorem dr_51 {c : ByteArray} {pc : Nat} (h : bq c pc 51 = true) : decode c pc = .ok (.baload, 1) := dk_1 h rfl
set_option maxRecDepth 20000 in
theorem dr_54 {c : ByteArray} {pc a : Nat} (h : (bq c pc 54 && bq c (pc + 1) a) = true) : decode c pc = .ok (.istore a, 2) := dk_u1 (f := fun v => .istore v) h rfl
set_option maxRecDepth 20000 in
theorem dr_58 {c : ByteArray} {pc a : Nat} (h : (bq c pc 58 && bq c (pc + 1) a) = true) : decode c pc = .ok (.astore a, 2) := dk_u1 (f := fun v => .astore v) h rfl
set_option maxRecDepth 20000 in
theorem dr_60 {c : ByteArray} {pc : Nat} (h : bq c pc 60 = true) : decode c pc = .ok (.istore_n 1, 1) := dk_1 h rfl
set_option maxRecDepth 20000 in
theorem dr_61 {c : ByteArray} {pc : Nat} (h : bq c pc 61 = true) : decode c pc = .ok (.istore_n 2, 1) := dk_1 h rfl
set_option maxRecDepth 20000 in
theorem dr_62 {c : ByteArray} {pc : Nat} (h : bq c pc 62 = true) : decode c pc = .ok (.istore_n 3, 1) := dk_1 h rfl
set_option maxRecDepth 20000 in
theorem dr_66 {c : ByteArray} {pc : Nat} (h : bq c pc 66 = true) : decode c pc = .ok (.lstore_n 3, 1) := dk_1 h rfl
set_option maxRecDepth 20000 in
theorem dr_76 {c : ByteArray} {pc : Nat} (h : bq c pc 76 = true) : decode c pc = .ok (.astore_n 1, 1) := dk_1 h rfl
set_option maxRecDepth 20000 in
theorem dr_77 {c : ByteArray} {pc : Nat} (h : bq c pc 77 = true) : decode c pc = .ok (.astore_n 2, 1) := dk_1 h rfl
set_option maxRecDepth 20000 in
theorem dr_78 {c : ByteArray} {pc : Nat} (h : bq c pc 78 = true) : decode c pc = .ok (.astore_n 3, 1) := dk_1 h rfl
set_option maxRecDepth 20000 in
theorem dr_79 {c : ByteArray} {pc : Nat} (h : bq c pc 79 = true) : decode c pc = .ok (.iastore, 1) := dk_1 h rfl
set_option maxRecDepth 20000 in
theorem dr_83 {c : ByteArray} {pc : Nat} (h : bq c pc 83 = true) : decode c pc = .ok (.aastore, 1) := dk_1 h rfl
set_option maxRecDepth 20000 in
theorem dr_84 {c : ByteArray} {pc : Nat} (h : bq c pc 84 = true) : decode c pc = .ok (.bastore, 1) := dk_1 h rfl
set_option maxRecDepth 20000 in
theorem dr_87 {c : ByteArray} {pc : Nat} (h : bq c pc 87 = true) : decode c pc = .ok (.pop, 1) := dk_1 h rfl
set_option maxRecDepth 20000 in
theorem dr_89 {c : ByteArray} {pc : Nat} (h : bq c pc 89 = true) : decode c pc = .ok (.dup, 1) := dk_1 h rfl
set_option maxRecDepth 20000 in
theorem dr_92 {c : ByteArray} {pc : Nat} (h : bq c pc 92 = true) : decode c pc = .ok (.dup2, 1) := dk_1 h rfl
set_option maxRecDepth 20000 in
theorem dr_96 {c : ByteArray} {pc : Nat} (h : bq c pc 96 = true) : decode c pc = .ok (.iadd, 1) := dk_1 h rfl
set_option maxRecDepth 20000 in
theorem dr_97 {c : ByteArray} {pc : Nat} (h : bq c pc 97 = true) : decode c pc = .ok (.ladd, 1) := dk_1 h rfl
set_option maxRecDepth 20000 in
theorem dr_100 {c : ByteArray} {pc : Nat} (h : bq c pc 100 = true) : decode c pc = .ok (.isub, 1) := dk_1 h rfl
set_option maxRecDepth 20000 in
theorem dr_101 {c : ByteArray} {pc : Nat} (h : bq c pc 101 = true) : decode c pc = .ok (.lsub, 1) := dk_1 h rfl
set_option maxRecDepth 20000 in
theorem dr_104 {c : ByteArray} {pc : Nat} (h : bq c pc 104 = true) : decode c pc = .ok (.imul, 1) := dk_1 h rfl
set_option maxRecDepth 20000 in
theorem dr_105 {c : ByteArray} {pc : Nat} (h : bq c pc 105 = true) : decode c pc = .ok (.lmul, 1) := dk_1 h rfl
set_option maxRecDepth 20000 in
theorem dr_108 {c : ByteArray} {pc : Nat} (h : bq c pc 108 = true) : decode c pc = .ok (.idiv, 1) := dk_1 h rfl
set_option maxRecDepth 20000 in
theorem dr_112 {c : ByteArray} {pc : Nat} (h : bq c pc 112 = true) : decode c pc = .ok (.irem, 1) := dk_1 h rfl
set_option maxRecDepth 20000 in
theorem dr_120 {c : ByteArray} {pc : Nat} (h : bq c pc 120 = true) : decode c pc = .ok (.ishl, 1) := dk_1 h rfl
set_option maxRecDepth 20000 in
theorem dr_122 {c : ByteArray} {pc : Nat} (h : bq c pc 122 = true) : decode c pc = .ok (.ishr, 1) := dk_1 h rfl
set_option maxRecDepth 20000 in
theorem dr_123 {c : ByteArray} {pc : Nat} (h : bq c pc 123 = true) : decode c pc = .ok (.lshr, 1) := dk_1 h rfl
set_option maxRecDepth 20000 in
theorem dr_125 {c : ByteArray} {pc : Nat} (h : bq c pc 125 = true) : decode c pc = .ok (.lushr, 1) := dk_1 h rfl
set_option maxRecDepth 20000 in
theorem dr_126 {c : ByteArray} {pc : Nat} (h : bq c pc 126 = true) : decode c pc = .ok (.iand, 1) := dk_1 h rfl
set_option maxRecDepth 20000 in
theorem dr_127 {c : ByteArray} {pc : Nat} (h : bq c pc 127 = true) : decode c pc = .ok (.land, 1) := dk_1 h rfl
set_option maxRecDepth 20000 in
theorem dr_128 {c : ByteArray} {pc : Nat} (h : bq c pc 128 = true) : decode c pc = .ok (.ior, 1) := dk_1 h rfl
set_option maxRecDepth 20000 in
theorem dr_130 {c : ByteArray} {pc : Nat} (h : bq c pc 130 = true) : decode c pc = .ok (.ixor, 1) := dk_1 h rfl
set_option maxRecDepth 20000 in
theorem dr_133 {c : ByteArray} {pc : Nat} (h : bq c pc 133 = true) : decode c pc = .ok (.i2l, 1) := dk_1 h rfl
set_option maxRecDepth 20000 in
theorem dr_136 {c : ByteArray} {pc : Nat} (h : bq c pc 136 = true) : decode c pc = .ok (.l2i, 1) := dk_1 h rfl
set_option maxRecDepth 20000 in
theorem dr_145 {c : ByteArray} {pc : Nat} (h : bq c pc 145 = true) : decode c pc = .ok (.i2b, 1) := dk_1 h rfl
set_option maxRecDepth 20000 in
theorem dr_148 {c : ByteArray} {pc : Nat} (h : bq c pc 148 = true) : decode c pc = .ok (.lcmp, 1) := dk_1 h rfl
set_option maxRecDepth 20000 in
theorem dr_153 {c : ByteArray} {pc : Nat} {v : Int} (a b : Nat) (h : (bq c pc 153 && bq c (pc + 1) a && bq c (pc + 2) b && (Reader.signed 16 (a * 256 + b) == v)) = true) : decode c pc = .ok (.ifCond .eq v, 3) := dk_s2 (f := fun v => .ifCond .eq v) h rfl
set_option maxRecDepth 20000 in
theorem dr_154 {c : ByteArray} {pc : Nat} {v : Int} (a b : Nat) (h : (bq c pc 154 && bq c (pc + 1) a && bq c (pc + 2) b && (Reader.signed 16 (a * 256 + b) == v)) = true) : decode c pc = .ok (.ifCond .ne v, 3) := dk_s2 (f := fun v => .ifCond .ne v) h rfl
set_option maxRecDepth 20000 in
theorem dr_155 {c : ByteArray} {pc : Nat} {v : Int} (a b : Nat) (h : (bq c pc 155 && bq c (pc + 1) a && bq c (pc + 2) b && (Reader.signed 16 (a * 256 + b) == v)) = true) : decode c pc = .ok (.ifCond .lt v, 3) := dk_s2 (f := fun v => .ifCond .lt v) h rfl
set_option maxRecDepth 20000 in
theorem dr_156 {c : ByteArray} {pc : Nat} {v : Int} (a b : Nat) (h : (bq c pc 156 && bq c (pc + 1) a && bq c (pc + 2) b && (Reader.signed 16 (a * 256 + b) == v)) = true) : decode c pc = .ok (.ifCond .ge v, 3) := dk_s2 (f := fun v => .ifCond .ge v) h rfl
set_option maxRecDepth 20000 in
theorem dr_157 {c : ByteArray} {pc : Nat} {v : Int} (a b : Nat) (h : (bq c pc 157 && bq c (pc + 1) a && bq c (pc + 2) b && (Reader.signed 16 (a * 256 + b) == v)) = true) : decode c pc = .ok (.ifCond .gt v, 3) := dk_s2 (f := fun v => .ifCond .gt v) h rfl
set_option maxRecDepth 20000 in
theorem dr_158 {c : ByteArray} {pc : Nat} {v : Int} (a b : Nat) (h : (bq c pc 158 && bq c (pc + 1) a && bq c (pc + 2) b && (Reader.signed 16 (a * 256 + b) == v)) = true) : decode c pc = .ok (.ifCond .le v, 3) := dk_s2 (f := fun v => .ifCond .le v) h rfl
set_option maxRecDepth 20000 in
theorem dr_159 {c : ByteArray} {pc : Nat} {v : Int} (a b : Nat) (h : (bq c pc 159 && bq c (pc + 1) a && bq c (pc + 2) b && (Reader.signed 16 (a * 256 + b) == v)) = true) : decode c pc = .ok (.if_icmp .eq v, 3) := dk_s2 (f := fun v => .if_icmp .eq v) h rfl
set_option maxRecDepth 20000 in
theorem dr_160 {c : ByteArray} {pc : Nat} {v : Int} (a b : Nat) (h : (bq c pc 160 && bq c (pc + 1) a && bq c (pc + 2) b && (Reader.signed 16 (a * 256 + b) == v)) = true) : decode c pc = .ok (.if_icmp .ne v, 3) := dk_s2 (f := fun v => .if_icmp .ne v) h rfl
set_option maxRecDepth 20000 in
theorem dr_161 {c : ByteArray} {pc : Nat} {v : Int} (a b : Nat) (h : (bq c pc 161 && bq c (pc + 1) a && bq c (pc + 2) b && (Reader.signed 16 (a * 256 + b) == v)) = true) : decode c pc = .ok (.if_icmp .lt v, 3) := dk_s2 (f := fun v => .if_icmp .lt v) h rfl
set_option maxRecDepth 20000 in
theorem dr_162 {c : ByteArray} {pc : Nat} {v : Int} (a b : Nat) (h : (bq c pc 162 && bq c (pc + 1) a && bq c (pc + 2) b && (Reader.signed 16 (a * 256 + b) == v)) = true) : decode c pc = .ok (.if_icmp .ge v, 3) := dk_s2 (f := fun v => .if_icmp .ge v) h rfl
set_option maxRecDepth 20000 in
theorem dr_163 {c : ByteArray} {pc : Nat} {v : Int} (a b : Nat) (h : (bq c pc 163 && bq c (pc + 1) a && bq c (pc + 2) b && (Reader.signed 16 (a * 256 + b) == v)) = true) : decode c pc = .ok (.if_icmp .gt v, 3) := dk_s2 (f := fun v => .if_icmp .gt v) h rfl
set_option maxRecDepth 20000 in
theorem dr_164 {c : ByteArray} {pc : Nat} {v : Int} (a b : Nat) (h : (bq c pc 164 && bq c (pc + 1) a && bq c (pc + 2) b && (Reader.signed 16 (a * 256 + b) == v)) = true) : decode c pc = .ok (.if_icmp .le v, 3) := dk_s2 (f := fun v => .if_icmp .le v) h rfl
set_option maxRecDepth 20000 in
theorem dr_167 {c : ByteArray} {pc : Nat} {v : Int} (a b : Nat) (h : (bq c pc 167 && bq c (pc + 1) a && bq c (pc + 2) b && (Reader.signed 16 (a * 256 + b) == v)) = true) : decode c pc = .ok (.goto v, 3) := dk_s2 (f := fun v => .goto v) h rfl
set_option maxRecDepth 20000 in
theorem dr_172 {c : ByteArray} {pc : Nat} (h : bq c pc 172 = true) : decode c pc = .ok (.ireturn, 1) := dk_1 h rfl
set_option maxRecDepth 20000 in
theorem dr_173 {c : ByteArray} {pc : Nat} (h : bq c pc 173 = true) : decode c pc = .ok (.lreturn, 1) := dk_1 h rfl
set_option maxRecDepth 20000 in
theorem dr_176 {c : ByteArray} {pc : Nat} (h : bq c pc 176 = true) : decode c pc = .ok (.areturn, 1) := dk_1 h rfl
set_option maxRecDepth 20000 in
theorem dr_177 {c : ByteArray} {pc : Nat} (h : bq c pc 177 = true) : decode c pc = .ok (.return_, 1) := dk_1 h rfl
set_option maxRecDepth 20000 in
theorem dr_180 {c : ByteArray} {pc v : Nat} (a b : Nat) (h : (bq c pc 180 && bq c (pc + 1) a && bq c (pc + 2) b && (a * 256 + b == v)) = true) : decode c pc = .ok (.getfield v, 3) := dk_u2 (f := fun v => .getfield v) h rfl
set_option maxRecDepth 20000 in
theorem dr_181 {c : ByteArray} {pc v : Nat} (a b : Nat) (h : (bq c pc 181 && bq c (pc + 1) a && bq c (pc + 2) b && (a * 256 + b == v)) = true) : decode c pc = .ok (.putfield v, 3) := dk_u2 (f := fun v => .putfield v) h rfl
set_option maxRecDepth 20000 in
theorem dr_182 {c : ByteArray} {pc v : Nat} (a b : Nat) (h : (bq c pc 182 && bq c (pc + 1) a && bq c (pc + 2) b && (a * 256 + b == v)) = true) : decode c pc = .ok (.invokevirtual v, 3) := dk_u2 (f := fun v => .invokevirtual v) h rfl
set_option maxRecDepth 20000 in
theorem dr_183 {c : ByteArray} {pc v : Nat} (a b : Nat) (h : (bq c pc 183 && bq c (pc + 1) a && bq c (pc + 2) b && (a * 256 + b == v)) = true) : decode c pc = .ok (.invokespecial v, 3) := dk_u2 (f := fun v => .invokespecial v) h rfl
set_option maxRecDepth 20000 in
theorem dr_184 {c : ByteArray} {pc v : Nat} (a b : Nat) (h : (bq c pc 184 && bq c (pc + 1) a && bq c (pc + 2) b && (a * 256 + b == v)) = true) : decode c pc = .ok (.invokestatic v, 3) := dk_u2 (f := fun v => .invokestatic v) h rfl
set_option maxRecDepth 20000 in
theorem dr_187 {c : ByteArray} {pc v : Nat} (a b : Nat) (h : (bq c pc 187 && bq c (pc + 1) a && bq c (pc + 2) b && (a * 256 + b == v)) = true) : decode c pc = .ok (.new v, 3) := dk_u2 (f := fun v => .new v) h rfl
set_option maxRecDepth 20000 in
theorem dr_189 {c : ByteArray} {pc v : Nat} (a b : Nat) (h : (bq c pc 189 && bq c (pc + 1) a && bq c (pc + 2) b && (a * 256 + b == v)) = true) : decode c pc = .ok (.anewarray v, 3) := dk_u2 (f := fun v => .anewarray v) h rfl
set_option maxRecDepth 20000 in
theorem dr_198 {c : ByteArray} {pc : Nat} {v : Int} (a b : Nat) (h : (bq c pc 198 && bq c (pc + 1) a && bq c (pc + 2) b && (Reader.signed 16 (a * 256 + b) == v)) = true) : decode c pc = .ok (.ifnull v, 3) := dk_s2 (f := fun v => .ifnull v) h rfl
set_option maxRecDepth 20000 in
theorem dr_199 {c : ByteArray} {pc : Nat} {v : Int} (a b : Nat) (h : (bq c pc 199 && bq c (pc + 1) a && bq c (pc + 2) b && (Reader.signed 16 (a * 256 + b) == v)) = true) : decode c pc = .ok (.ifnonnull v, 3) := dk_s2 (f := fun v => .ifnonnull v) h rfl
