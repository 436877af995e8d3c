def bqT (t : List UInt8) (i b : Nat) : Bool := match t[i]? with
  | some x => x.toNat == b
  | none => false
theorem bq_T {c : ByteArray} {t : List UInt8} {i p b : Nat} (g : ∀ i, c.data.toList[i + p]? = t[i]?) (h : bqT t i b = true) : bq c (i + p) b = true := by
  unfold bq
  rw [g]
  exact h
theorem bq_T1 {c : ByteArray} {t : List UInt8} {i p b : Nat} (g : ∀ i, c.data.toList[i + p]? = t[i]?) (h : bqT t (i + 1) b = true) : bq c (i + p + 1) b = true := by
  rw [show i + p + 1 = i + 1 + p by omega]
  exact bq_T g h
theorem bq_T2 {c : ByteArray} {t : List UInt8} {i p b : Nat} (g : ∀ i, c.data.toList[i + p]? = t[i]?) (h : bqT t (i + 2) b = true) : bq c (i + p + 2) b = true := by
  rw [show i + p + 2 = i + 2 + p by omega]
  exact bq_T g h
theorem b2s_T {c : ByteArray} {t : List UInt8} {i p o a : Nat} {w : Bool} (g : ∀ i, c.data.toList[i + p]? = t[i]?) (h : (bqT t i o && bqT t (i + 1) a && w) = true) : (bq c (i + p) o && bq c (i + p + 1) a && w) = true := by
  simp only [Bool.and_eq_true] at h ⊢
  exact ⟨⟨bq_T g h.1.1, bq_T1 g h.1.2⟩, h.2⟩
theorem b3_T {c : ByteArray} {t : List UInt8} {i p o a b : Nat} {w : Bool} (g : ∀ i, c.data.toList[i + p]? = t[i]?) (h : (bqT t i o && bqT t (i + 1) a && bqT t (i + 2) b && w) = true) : (bq c (i + p) o && bq c (i + p + 1) a && bq c (i + p + 2) b && w) = true := by
  simp only [Bool.and_eq_true] at h ⊢
  exact ⟨⟨⟨bq_T g h.1.1.1, bq_T1 g h.1.1.2⟩, bq_T2 g h.1.2⟩, h.2⟩
theorem chs {l t t' : List UInt8} {a b : Nat} (g : ∀ i, l[i + a]? = t[i]?) (h : ∀ i, t[i + 16]? = t'[i]?) (e : b = a + 16) : ∀ i, l[i + b]? = t'[i]? := fun i => by
  subst e
  rw [show i + (a + 16) = (i + 16) + a by omega, g, h]
set_option maxRecDepth 20000 in
theorem dt_3 {c : ByteArray} {t : List UInt8} {i p : Nat} (g : ∀ i, c.data.toList[i + p]? = t[i]?) (h : bqT t i 3 = true) : decode c (i + p) = .ok (.iconst 0, 1) := dk_1 (bq_T g h) rfl
set_option maxRecDepth 20000 in
theorem dt_4 {c : ByteArray} {t : List UInt8} {i p : Nat} (g : ∀ i, c.data.toList[i + p]? = t[i]?) (h : bqT t i 4 = true) : decode c (i + p) = .ok (.iconst 1, 1) := dk_1 (bq_T g h) rfl
set_option maxRecDepth 20000 in
theorem dt_5 {c : ByteArray} {t : List UInt8} {i p : Nat} (g : ∀ i, c.data.toList[i + p]? = t[i]?) (h : bqT t i 5 = true) : decode c (i + p) = .ok (.iconst 2, 1) := dk_1 (bq_T g h) rfl
set_option maxRecDepth 20000 in
theorem dt_6 {c : ByteArray} {t : List UInt8} {i p : Nat} (g : ∀ i, c.data.toList[i + p]? = t[i]?) (h : bqT t i 6 = true) : decode c (i + p) = .ok (.iconst 3, 1) := dk_1 (bq_T g h) rfl
set_option maxRecDepth 20000 in
theorem dt_7 {c : ByteArray} {t : List UInt8} {i p : Nat} (g : ∀ i, c.data.toList[i + p]? = t[i]?) (h : bqT t i 7 = true) : decode c (i + p) = .ok (.iconst 4, 1) := dk_1 (bq_T g h) rfl
set_option maxRecDepth 20000 in
theorem dt_16 {c : ByteArray} {t : List UInt8} {i p : Nat} (g : ∀ i, c.data.toList[i + p]? = t[i]?) {v : Int} (a : Nat) (h : (bqT t i 16 && bqT t (i + 1) a && (Reader.signed 8 a == v)) = true) : decode c (i + p) = .ok (.bipush v, 2) := dk_s1 (f := fun v => .bipush v) (b2s_T g h) rfl
set_option maxRecDepth 20000 in
theorem dt_20 {c : ByteArray} {t : List UInt8} {i p : Nat} (g : ∀ i, c.data.toList[i + p]? = t[i]?) {v : Nat} (a b : Nat) (h : (bqT t i 20 && bqT t (i + 1) a && bqT t (i + 2) b && (a * 256 + b == v)) = true) : decode c (i + p) = .ok (.ldc2_w v, 3) := dk_u2 (f := fun v => .ldc2_w v) (b3_T g h) rfl
set_option maxRecDepth 20000 in
theorem dt_29 {c : ByteArray} {t : List UInt8} {i p : Nat} (g : ∀ i, c.data.toList[i + p]? = t[i]?) (h : bqT t i 29 = true) : decode c (i + p) = .ok (.iload_n 3, 1) := dk_1 (bq_T g h) rfl
set_option maxRecDepth 20000 in
theorem dt_42 {c : ByteArray} {t : List UInt8} {i p : Nat} (g : ∀ i, c.data.toList[i + p]? = t[i]?) (h : bqT t i 42 = true) : decode c (i + p) = .ok (.aload_n 0, 1) := dk_1 (bq_T g h) rfl
set_option maxRecDepth 20000 in
theorem dt_43 {c : ByteArray} {t : List UInt8} {i p : Nat} (g : ∀ i, c.data.toList[i + p]? = t[i]?) (h : bqT t i 43 = true) : decode c (i + p) = .ok (.aload_n 1, 1) := dk_1 (bq_T g h) rfl
set_option maxRecDepth 20000 in
theorem dt_44 {c : ByteArray} {t : List UInt8} {i p : Nat} (g : ∀ i, c.data.toList[i + p]? = t[i]?) (h : bqT t i 44 = true) : decode c (i + p) = .ok (.aload_n 2, 1) := dk_1 (bq_T g h) rfl
set_option maxRecDepth 20000 in
theorem dt_46 {c : ByteArray} {t : List UInt8} {i p : Nat} (g : ∀ i, c.data.toList[i + p]? = t[i]?) (h : bqT t i 46 = true) : decode c (i + p) = .ok (.iaload, 1) := dk_1 (bq_T g h) rfl
set_option maxRecDepth 20000 in
theorem dt_62 {c : ByteArray} {t : List UInt8} {i p : Nat} (g : ∀ i, c.data.toList[i + p]? = t[i]?) (h : bqT t i 62 = true) : decode c (i + p) = .ok (.istore_n 3, 1) := dk_1 (bq_T g h) rfl
set_option maxRecDepth 20000 in
theorem dt_76 {c : ByteArray} {t : List UInt8} {i p : Nat} (g : ∀ i, c.data.toList[i + p]? = t[i]?) (h : bqT t i 76 = true) : decode c (i + p) = .ok (.astore_n 1, 1) := dk_1 (bq_T g h) rfl
set_option maxRecDepth 20000 in
theorem dt_77 {c : ByteArray} {t : List UInt8} {i p : Nat} (g : ∀ i, c.data.toList[i + p]? = t[i]?) (h : bqT t i 77 = true) : decode c (i + p) = .ok (.astore_n 2, 1) := dk_1 (bq_T g h) rfl
set_option maxRecDepth 20000 in
theorem dt_87 {c : ByteArray} {t : List UInt8} {i p : Nat} (g : ∀ i, c.data.toList[i + p]? = t[i]?) (h : bqT t i 87 = true) : decode c (i + p) = .ok (.pop, 1) := dk_1 (bq_T g h) rfl
set_option maxRecDepth 20000 in
theorem dt_88 {c : ByteArray} {t : List UInt8} {i p : Nat} (g : ∀ i, c.data.toList[i + p]? = t[i]?) (h : bqT t i 88 = true) : decode c (i + p) = .ok (.pop2, 1) := dk_1 (bq_T g h) rfl
set_option maxRecDepth 20000 in
theorem dt_89 {c : ByteArray} {t : List UInt8} {i p : Nat} (g : ∀ i, c.data.toList[i + p]? = t[i]?) (h : bqT t i 89 = true) : decode c (i + p) = .ok (.dup, 1) := dk_1 (bq_T g h) rfl
set_option maxRecDepth 20000 in
theorem dt_96 {c : ByteArray} {t : List UInt8} {i p : Nat} (g : ∀ i, c.data.toList[i + p]? = t[i]?) (h : bqT t i 96 = true) : decode c (i + p) = .ok (.iadd, 1) := dk_1 (bq_T g h) rfl
set_option maxRecDepth 20000 in
theorem dt_100 {c : ByteArray} {t : List UInt8} {i p : Nat} (g : ∀ i, c.data.toList[i + p]? = t[i]?) (h : bqT t i 100 = true) : decode c (i + p) = .ok (.isub, 1) := dk_1 (bq_T g h) rfl
set_option maxRecDepth 20000 in
theorem dt_121 {c : ByteArray} {t : List UInt8} {i p : Nat} (g : ∀ i, c.data.toList[i + p]? = t[i]?) (h : bqT t i 121 = true) : decode c (i + p) = .ok (.lshl, 1) := dk_1 (bq_T g h) rfl
set_option maxRecDepth 20000 in
theorem dt_126 {c : ByteArray} {t : List UInt8} {i p : Nat} (g : ∀ i, c.data.toList[i + p]? = t[i]?) (h : bqT t i 126 = true) : decode c (i + p) = .ok (.iand, 1) := dk_1 (bq_T g h) rfl
set_option maxRecDepth 20000 in
theorem dt_127 {c : ByteArray} {t : List UInt8} {i p : Nat} (g : ∀ i, c.data.toList[i + p]? = t[i]?) (h : bqT t i 127 = true) : decode c (i + p) = .ok (.land, 1) := dk_1 (bq_T g h) rfl
set_option maxRecDepth 20000 in
theorem dt_129 {c : ByteArray} {t : List UInt8} {i p : Nat} (g : ∀ i, c.data.toList[i + p]? = t[i]?) (h : bqT t i 129 = true) : decode c (i + p) = .ok (.lor, 1) := dk_1 (bq_T g h) rfl
set_option maxRecDepth 20000 in
theorem dt_133 {c : ByteArray} {t : List UInt8} {i p : Nat} (g : ∀ i, c.data.toList[i + p]? = t[i]?) (h : bqT t i 133 = true) : decode c (i + p) = .ok (.i2l, 1) := dk_1 (bq_T g h) rfl
set_option maxRecDepth 20000 in
theorem dt_159 {c : ByteArray} {t : List UInt8} {i p : Nat} (g : ∀ i, c.data.toList[i + p]? = t[i]?) {v : Int} (a b : Nat) (h : (bqT t i 159 && bqT t (i + 1) a && bqT t (i + 2) b && (Reader.signed 16 (a * 256 + b) == v)) = true) : decode c (i + p) = .ok (.if_icmp .eq v, 3) := dk_s2 (f := fun v => .if_icmp .eq v) (b3_T g h) rfl
set_option maxRecDepth 20000 in
theorem dt_163 {c : ByteArray} {t : List UInt8} {i p : Nat} (g : ∀ i, c.data.toList[i + p]? = t[i]?) {v : Int} (a b : Nat) (h : (bqT t i 163 && bqT t (i + 1) a && bqT t (i + 2) b && (Reader.signed 16 (a * 256 + b) == v)) = true) : decode c (i + p) = .ok (.if_icmp .gt v, 3) := dk_s2 (f := fun v => .if_icmp .gt v) (b3_T g h) rfl
set_option maxRecDepth 20000 in
theorem dt_167 {c : ByteArray} {t : List UInt8} {i p : Nat} (g : ∀ i, c.data.toList[i + p]? = t[i]?) {v : Int} (a b : Nat) (h : (bqT t i 167 && bqT t (i + 1) a && bqT t (i + 2) b && (Reader.signed 16 (a * 256 + b) == v)) = true) : decode c (i + p) = .ok (.goto v, 3) := dk_s2 (f := fun v => .goto v) (b3_T g h) rfl
set_option maxRecDepth 20000 in
theorem dt_172 {c : ByteArray} {t : List UInt8} {i p : Nat} (g : ∀ i, c.data.toList[i + p]? = t[i]?) (h : bqT t i 172 = true) : decode c (i + p) = .ok (.ireturn, 1) := dk_1 (bq_T g h) rfl
set_option maxRecDepth 20000 in
theorem dt_182 {c : ByteArray} {t : List UInt8} {i p : Nat} (g : ∀ i, c.data.toList[i + p]? = t[i]?) {v : Nat} (a b : Nat) (h : (bqT t i 182 && bqT t (i + 1) a && bqT t (i + 2) b && (a * 256 + b == v)) = true) : decode c (i + p) = .ok (.invokevirtual v, 3) := dk_u2 (f := fun v => .invokevirtual v) (b3_T g h) rfl
set_option maxRecDepth 20000 in
theorem dt_183 {c : ByteArray} {t : List UInt8} {i p : Nat} (g : ∀ i, c.data.toList[i + p]? = t[i]?) {v : Nat} (a b : Nat) (h : (bqT t i 183 && bqT t (i + 1) a && bqT t (i + 2) b && (a * 256 + b == v)) = true) : decode c (i + p) = .ok (.invokespecial v, 3) := dk_u2 (f := fun v => .invokespecial v) (b3_T g h) rfl
set_option maxRecDepth 20000 in
theorem dt_187 {c : ByteArray} {t : List UInt8} {i p : Nat} (g : ∀ i, c.data.toList[i + p]? = t[i]?) {v : Nat} (a b : Nat) (h : (bqT t i 187 && bqT t (i + 1) a && bqT t (i + 2) b && (a * 256 + b == v)) = true) : decode c (i + p) = .ok (.new v, 3) := dk_u2 (f := fun v => .new v) (b3_T g h) rfl
set_option maxRecDepth 20000 in
theorem dt_190 {c : ByteArray} {t : List UInt8} {i p : Nat} (g : ∀ i, c.data.toList[i + p]? = t[i]?) (h : bqT t i 190 = true) : decode c (i + p) = .ok (.arraylength, 1) := dk_1 (bq_T g h) rfl
def tcL_law_64 : List UInt8 := 132 :: 3 :: 4 :: 167 :: 252 :: 15 :: 4 :: 172 :: []
def tcL_law_63 : List UInt8 := 167 :: 0 :: 16 :: 43 :: 182 :: 0 :: 128 :: 88 :: 44 :: 182 :: 0 :: 132 :: 88 :: 167 :: 0 :: 3 :: tcL_law_64
def tcL_law_62 : List UInt8 := 96 :: 46 :: 182 :: 0 :: 124 :: 87 :: 44 :: 42 :: 29 :: 4 :: 96 :: 46 :: 182 :: 0 :: 127 :: 87 :: tcL_law_63
def tcL_law_61 : List UInt8 := 29 :: 5 :: 96 :: 46 :: 182 :: 0 :: 123 :: 159 :: 0 :: 41 :: 3 :: 172 :: 43 :: 42 :: 29 :: 4 :: tcL_law_62
def tcL_law_60 : List UInt8 := 46 :: 42 :: 29 :: 5 :: 96 :: 46 :: 182 :: 0 :: 120 :: 44 :: 42 :: 29 :: 4 :: 96 :: 46 :: 42 :: tcL_law_61
def tcL_law_59 : List UInt8 := 29 :: 6 :: 96 :: 46 :: 182 :: 0 :: 119 :: 87 :: 167 :: 0 :: 72 :: 43 :: 42 :: 29 :: 4 :: 96 :: tcL_law_60
def tcL_law_58 : List UInt8 := 182 :: 0 :: 116 :: 87 :: 44 :: 42 :: 29 :: 4 :: 96 :: 46 :: 42 :: 29 :: 5 :: 96 :: 46 :: 42 :: tcL_law_59
def tcL_law_57 : List UInt8 := 43 :: 42 :: 29 :: 4 :: 96 :: 46 :: 42 :: 29 :: 5 :: 96 :: 46 :: 42 :: 29 :: 6 :: 96 :: 46 :: tcL_law_58
def tcL_law_56 : List UInt8 := 29 :: 5 :: 96 :: 46 :: 42 :: 29 :: 6 :: 96 :: 46 :: 182 :: 0 :: 115 :: 87 :: 167 :: 0 :: 115 :: tcL_law_57
def tcL_law_55 : List UInt8 := 42 :: 29 :: 6 :: 96 :: 46 :: 182 :: 0 :: 112 :: 87 :: 44 :: 42 :: 29 :: 4 :: 96 :: 46 :: 42 :: tcL_law_56
def tcL_law_54 : List UInt8 := 111 :: 87 :: 167 :: 0 :: 158 :: 43 :: 42 :: 29 :: 4 :: 96 :: 46 :: 42 :: 29 :: 5 :: 96 :: 46 :: tcL_law_55
def tcL_law_53 : List UInt8 := 0 :: 108 :: 87 :: 44 :: 42 :: 29 :: 4 :: 96 :: 46 :: 42 :: 29 :: 5 :: 96 :: 46 :: 182 :: 0 :: tcL_law_54
def tcL_law_52 : List UInt8 := 87 :: 167 :: 0 :: 191 :: 43 :: 42 :: 29 :: 4 :: 96 :: 46 :: 42 :: 29 :: 5 :: 96 :: 46 :: 182 :: tcL_law_53
def tcL_law_51 : List UInt8 := 104 :: 87 :: 44 :: 42 :: 29 :: 4 :: 96 :: 46 :: 42 :: 29 :: 5 :: 96 :: 46 :: 182 :: 0 :: 107 :: tcL_law_52
def tcL_law_50 : List UInt8 := 167 :: 0 :: 224 :: 43 :: 42 :: 29 :: 4 :: 96 :: 46 :: 42 :: 29 :: 5 :: 96 :: 46 :: 182 :: 0 :: tcL_law_51
def tcL_law_49 : List UInt8 := 96 :: 46 :: 182 :: 0 :: 100 :: 87 :: 44 :: 42 :: 29 :: 4 :: 96 :: 46 :: 182 :: 0 :: 103 :: 87 :: tcL_law_50
def tcL_law_48 : List UInt8 := 42 :: 29 :: 4 :: 96 :: 46 :: 182 :: 0 :: 99 :: 87 :: 167 :: 0 :: 247 :: 43 :: 42 :: 29 :: 4 :: tcL_law_49
def tcL_law_47 : List UInt8 := 95 :: 87 :: 167 :: 1 :: 14 :: 43 :: 42 :: 29 :: 4 :: 96 :: 46 :: 182 :: 0 :: 96 :: 87 :: 44 :: tcL_law_48
def tcL_law_46 : List UInt8 := 0 :: 92 :: 87 :: 44 :: 42 :: 29 :: 4 :: 96 :: 46 :: 42 :: 29 :: 5 :: 96 :: 46 :: 182 :: 0 :: tcL_law_47
def tcL_law_45 : List UInt8 := 87 :: 167 :: 1 :: 47 :: 43 :: 42 :: 29 :: 4 :: 96 :: 46 :: 42 :: 29 :: 5 :: 96 :: 46 :: 182 :: tcL_law_46
def tcL_law_44 : List UInt8 := 88 :: 87 :: 44 :: 42 :: 29 :: 4 :: 96 :: 46 :: 42 :: 29 :: 5 :: 96 :: 46 :: 182 :: 0 :: 91 :: tcL_law_45
def tcL_law_43 : List UInt8 := 167 :: 1 :: 80 :: 43 :: 42 :: 29 :: 4 :: 96 :: 46 :: 42 :: 29 :: 5 :: 96 :: 46 :: 182 :: 0 :: tcL_law_44
def tcL_law_42 : List UInt8 := 96 :: 46 :: 42 :: 29 :: 5 :: 96 :: 46 :: 42 :: 29 :: 6 :: 96 :: 46 :: 182 :: 0 :: 87 :: 87 :: tcL_law_43
def tcL_law_41 : List UInt8 := 5 :: 96 :: 46 :: 42 :: 29 :: 6 :: 96 :: 46 :: 182 :: 0 :: 84 :: 87 :: 44 :: 42 :: 29 :: 4 :: tcL_law_42
def tcL_law_40 : List UInt8 := 46 :: 182 :: 0 :: 83 :: 87 :: 167 :: 1 :: 123 :: 43 :: 42 :: 29 :: 4 :: 96 :: 46 :: 42 :: 29 :: tcL_law_41
def tcL_law_39 : List UInt8 := 87 :: 44 :: 42 :: 29 :: 4 :: 96 :: 46 :: 42 :: 29 :: 5 :: 96 :: 46 :: 42 :: 29 :: 6 :: 96 :: tcL_law_40
def tcL_law_38 : List UInt8 := 4 :: 96 :: 46 :: 42 :: 29 :: 5 :: 96 :: 46 :: 42 :: 29 :: 6 :: 96 :: 46 :: 182 :: 0 :: 80 :: tcL_law_39
def tcL_law_37 : List UInt8 := 46 :: 42 :: 29 :: 5 :: 96 :: 46 :: 182 :: 0 :: 79 :: 87 :: 167 :: 1 :: 166 :: 43 :: 42 :: 29 :: tcL_law_38
def tcL_law_36 : List UInt8 := 96 :: 46 :: 42 :: 29 :: 5 :: 96 :: 46 :: 182 :: 0 :: 76 :: 87 :: 44 :: 42 :: 29 :: 4 :: 96 :: tcL_law_37
def tcL_law_35 : List UInt8 := 182 :: 0 :: 72 :: 87 :: 44 :: 182 :: 0 :: 75 :: 87 :: 167 :: 1 :: 199 :: 43 :: 42 :: 29 :: 4 :: tcL_law_36
def tcL_law_34 : List UInt8 := 68 :: 87 :: 44 :: 42 :: 29 :: 4 :: 96 :: 46 :: 182 :: 0 :: 71 :: 87 :: 167 :: 1 :: 212 :: 43 :: tcL_law_35
def tcL_law_33 : List UInt8 := 46 :: 182 :: 0 :: 67 :: 87 :: 167 :: 1 :: 235 :: 43 :: 42 :: 29 :: 4 :: 96 :: 46 :: 182 :: 0 :: tcL_law_34
def tcL_law_32 : List UInt8 := 96 :: 46 :: 182 :: 0 :: 64 :: 87 :: 44 :: 42 :: 29 :: 4 :: 96 :: 46 :: 42 :: 29 :: 5 :: 96 :: tcL_law_33
def tcL_law_31 : List UInt8 := 182 :: 0 :: 63 :: 87 :: 167 :: 2 :: 12 :: 43 :: 42 :: 29 :: 4 :: 96 :: 46 :: 42 :: 29 :: 5 :: tcL_law_32
def tcL_law_30 : List UInt8 := 43 :: 42 :: 29 :: 4 :: 96 :: 46 :: 182 :: 0 :: 60 :: 87 :: 44 :: 42 :: 29 :: 4 :: 96 :: 46 :: tcL_law_31
def tcL_law_29 : List UInt8 := 29 :: 4 :: 96 :: 46 :: 42 :: 29 :: 5 :: 96 :: 46 :: 182 :: 0 :: 59 :: 87 :: 167 :: 2 :: 35 :: tcL_law_30
def tcL_law_28 : List UInt8 := 42 :: 29 :: 4 :: 96 :: 46 :: 42 :: 29 :: 5 :: 96 :: 46 :: 182 :: 0 :: 56 :: 87 :: 44 :: 42 :: tcL_law_29
def tcL_law_27 : List UInt8 := 5 :: 96 :: 46 :: 42 :: 29 :: 6 :: 96 :: 46 :: 182 :: 0 :: 55 :: 87 :: 167 :: 2 :: 68 :: 43 :: tcL_law_28
def tcL_law_26 : List UInt8 := 29 :: 6 :: 96 :: 46 :: 182 :: 0 :: 51 :: 87 :: 44 :: 42 :: 29 :: 4 :: 96 :: 46 :: 42 :: 29 :: tcL_law_27
def tcL_law_25 : List UInt8 := 87 :: 167 :: 2 :: 111 :: 43 :: 42 :: 29 :: 4 :: 96 :: 46 :: 42 :: 29 :: 5 :: 96 :: 46 :: 42 :: tcL_law_26
def tcL_law_24 : List UInt8 := 47 :: 87 :: 44 :: 42 :: 29 :: 4 :: 96 :: 46 :: 42 :: 29 :: 5 :: 96 :: 46 :: 182 :: 0 :: 50 :: tcL_law_25
def tcL_law_23 : List UInt8 := 167 :: 2 :: 144 :: 43 :: 42 :: 29 :: 4 :: 96 :: 46 :: 42 :: 29 :: 5 :: 96 :: 46 :: 182 :: 0 :: tcL_law_24
def tcL_law_22 : List UInt8 := 87 :: 44 :: 42 :: 29 :: 4 :: 96 :: 46 :: 42 :: 29 :: 5 :: 96 :: 46 :: 182 :: 0 :: 46 :: 87 :: tcL_law_23
def tcL_law_21 : List UInt8 := 2 :: 177 :: 43 :: 42 :: 29 :: 4 :: 96 :: 46 :: 42 :: 29 :: 5 :: 96 :: 46 :: 182 :: 0 :: 43 :: tcL_law_22
def tcL_law_20 : List UInt8 := 46 :: 182 :: 0 :: 39 :: 87 :: 44 :: 42 :: 29 :: 4 :: 96 :: 46 :: 182 :: 0 :: 42 :: 87 :: 167 :: tcL_law_21
def tcL_law_19 : List UInt8 := 29 :: 4 :: 96 :: 46 :: 182 :: 0 :: 38 :: 87 :: 167 :: 2 :: 200 :: 43 :: 42 :: 29 :: 4 :: 96 :: tcL_law_20
def tcL_law_18 : List UInt8 := 87 :: 167 :: 2 :: 223 :: 43 :: 42 :: 29 :: 4 :: 96 :: 46 :: 182 :: 0 :: 35 :: 87 :: 44 :: 42 :: tcL_law_19
def tcL_law_17 : List UInt8 := 30 :: 87 :: 44 :: 42 :: 29 :: 4 :: 96 :: 46 :: 42 :: 29 :: 5 :: 96 :: 46 :: 182 :: 0 :: 34 :: tcL_law_18
def tcL_law_16 : List UInt8 := 167 :: 3 :: 0 :: 43 :: 42 :: 29 :: 4 :: 96 :: 46 :: 42 :: 29 :: 5 :: 96 :: 46 :: 182 :: 0 :: tcL_law_17
def tcL_law_15 : List UInt8 := 96 :: 46 :: 182 :: 0 :: 25 :: 87 :: 44 :: 42 :: 29 :: 4 :: 96 :: 46 :: 182 :: 0 :: 29 :: 87 :: tcL_law_16
def tcL_law_14 : List UInt8 := 182 :: 0 :: 20 :: 87 :: 44 :: 182 :: 0 :: 24 :: 87 :: 167 :: 3 :: 23 :: 43 :: 42 :: 29 :: 4 :: tcL_law_15
def tcL_law_13 : List UInt8 := 13 :: 127 :: 129 :: 42 :: 29 :: 6 :: 96 :: 46 :: 182 :: 0 :: 19 :: 87 :: 167 :: 3 :: 36 :: 43 :: tcL_law_14
def tcL_law_12 : List UInt8 := 29 :: 4 :: 96 :: 46 :: 133 :: 16 :: 32 :: 121 :: 42 :: 29 :: 5 :: 96 :: 46 :: 133 :: 20 :: 0 :: tcL_law_13
def tcL_law_11 : List UInt8 := 20 :: 0 :: 13 :: 127 :: 129 :: 42 :: 29 :: 6 :: 96 :: 46 :: 182 :: 0 :: 15 :: 87 :: 44 :: 42 :: tcL_law_12
def tcL_law_10 : List UInt8 := 43 :: 42 :: 29 :: 4 :: 96 :: 46 :: 133 :: 16 :: 32 :: 121 :: 42 :: 29 :: 5 :: 96 :: 46 :: 133 :: tcL_law_11
def tcL_law_9 : List UInt8 := 0 :: 0 :: 3 :: 112 :: 0 :: 0 :: 3 :: 155 :: 0 :: 0 :: 3 :: 188 :: 0 :: 0 :: 3 :: 211 :: tcL_law_10
def tcL_law_8 : List UInt8 := 0 :: 0 :: 2 :: 236 :: 0 :: 0 :: 3 :: 3 :: 0 :: 0 :: 3 :: 36 :: 0 :: 0 :: 3 :: 69 :: tcL_law_9
def tcL_law_7 : List UInt8 := 0 :: 0 :: 2 :: 104 :: 0 :: 0 :: 2 :: 147 :: 0 :: 0 :: 2 :: 180 :: 0 :: 0 :: 2 :: 213 :: tcL_law_8
def tcL_law_6 : List UInt8 := 0 :: 0 :: 1 :: 248 :: 0 :: 0 :: 2 :: 15 :: 0 :: 0 :: 2 :: 28 :: 0 :: 0 :: 2 :: 61 :: tcL_law_7
def tcL_law_5 : List UInt8 := 0 :: 0 :: 1 :: 116 :: 0 :: 0 :: 1 :: 159 :: 0 :: 0 :: 1 :: 192 :: 0 :: 0 :: 1 :: 215 :: tcL_law_6
def tcL_law_4 : List UInt8 := 0 :: 0 :: 1 :: 4 :: 0 :: 0 :: 1 :: 27 :: 0 :: 0 :: 1 :: 50 :: 0 :: 0 :: 1 :: 83 :: tcL_law_5
def tcL_law_3 : List UInt8 := 0 :: 0 :: 0 :: 128 :: 0 :: 0 :: 0 :: 191 :: 0 :: 0 :: 0 :: 204 :: 0 :: 0 :: 0 :: 227 :: tcL_law_4
def tcL_law_2 : List UInt8 := 170 :: 0 :: 0 :: 0 :: 0 :: 0 :: 3 :: 224 :: 0 :: 0 :: 0 :: 0 :: 0 :: 0 :: 0 :: 27 :: tcL_law_3
def tcL_law_1 : List UInt8 := 3 :: 62 :: 29 :: 42 :: 190 :: 7 :: 100 :: 163 :: 3 :: 239 :: 42 :: 29 :: 46 :: 16 :: 31 :: 126 :: tcL_law_2
def tcL_law_0 : List UInt8 := 187 :: 0 :: 7 :: 89 :: 183 :: 0 :: 9 :: 76 :: 187 :: 0 :: 10 :: 89 :: 183 :: 0 :: 12 :: 77 :: tcL_law_1
set_option maxRecDepth 20000 in
theorem ecL_law : cL_law.data.toList = tcL_law_0 := by decide +kernel
theorem gcL_law_0 : ∀ i, cL_law.data.toList[i + 0]? = tcL_law_0[i]? := fun i => by rw [ecL_law]; rfl
theorem gcL_law_1 : ∀ i, cL_law.data.toList[i + 16]? = tcL_law_1[i]? := chs gcL_law_0 (fun _ => rfl) rfl
theorem gcL_law_2 : ∀ i, cL_law.data.toList[i + 32]? = tcL_law_2[i]? := chs gcL_law_1 (fun _ => rfl) rfl
theorem gcL_law_3 : ∀ i, cL_law.data.toList[i + 48]? = tcL_law_3[i]? := chs gcL_law_2 (fun _ => rfl) rfl
theorem gcL_law_4 : ∀ i, cL_law.data.toList[i + 64]? = tcL_law_4[i]? := chs gcL_law_3 (fun _ => rfl) rfl
theorem gcL_law_5 : ∀ i, cL_law.data.toList[i + 80]? = tcL_law_5[i]? := chs gcL_law_4 (fun _ => rfl) rfl
theorem gcL_law_6 : ∀ i, cL_law.data.toList[i + 96]? = tcL_law_6[i]? := chs gcL_law_5 (fun _ => rfl) rfl
theorem gcL_law_7 : ∀ i, cL_law.data.toList[i + 112]? = tcL_law_7[i]? := chs gcL_law_6 (fun _ => rfl) rfl
theorem gcL_law_8 : ∀ i, cL_law.data.toList[i + 128]? = tcL_law_8[i]? := chs gcL_law_7 (fun _ => rfl) rfl
theorem gcL_law_9 : ∀ i, cL_law.data.toList[i + 144]? = tcL_law_9[i]? := chs gcL_law_8 (fun _ => rfl) rfl
theorem gcL_law_10 : ∀ i, cL_law.data.toList[i + 160]? = tcL_law_10[i]? := chs gcL_law_9 (fun _ => rfl) rfl
theorem gcL_law_11 : ∀ i, cL_law.data.toList[i + 176]? = tcL_law_11[i]? := chs gcL_law_10 (fun _ => rfl) rfl
theorem gcL_law_12 : ∀ i, cL_law.data.toList[i + 192]? = tcL_law_12[i]? := chs gcL_law_11 (fun _ => rfl) rfl
theorem gcL_law_13 : ∀ i, cL_law.data.toList[i + 208]? = tcL_law_13[i]? := chs gcL_law_12 (fun _ => rfl) rfl
theorem gcL_law_14 : ∀ i, cL_law.data.toList[i + 224]? = tcL_law_14[i]? := chs gcL_law_13 (fun _ => rfl) rfl
theorem gcL_law_15 : ∀ i, cL_law.data.toList[i + 240]? = tcL_law_15[i]? := chs gcL_law_14 (fun _ => rfl) rfl
theorem gcL_law_16 : ∀ i, cL_law.data.toList[i + 256]? = tcL_law_16[i]? := chs gcL_law_15 (fun _ => rfl) rfl
theorem gcL_law_17 : ∀ i, cL_law.data.toList[i + 272]? = tcL_law_17[i]? := chs gcL_law_16 (fun _ => rfl) rfl
theorem gcL_law_18 : ∀ i, cL_law.data.toList[i + 288]? = tcL_law_18[i]? := chs gcL_law_17 (fun _ => rfl) rfl
theorem gcL_law_19 : ∀ i, cL_law.data.toList[i + 304]? = tcL_law_19[i]? := chs gcL_law_18 (fun _ => rfl) rfl
theorem gcL_law_20 : ∀ i, cL_law.data.toList[i + 320]? = tcL_law_20[i]? := chs gcL_law_19 (fun _ => rfl) rfl
theorem gcL_law_21 : ∀ i, cL_law.data.toList[i + 336]? = tcL_law_21[i]? := chs gcL_law_20 (fun _ => rfl) rfl
theorem gcL_law_22 : ∀ i, cL_law.data.toList[i + 352]? = tcL_law_22[i]? := chs gcL_law_21 (fun _ => rfl) rfl
theorem gcL_law_23 : ∀ i, cL_law.data.toList[i + 368]? = tcL_law_23[i]? := chs gcL_law_22 (fun _ => rfl) rfl
theorem gcL_law_24 : ∀ i, cL_law.data.toList[i + 384]? = tcL_law_24[i]? := chs gcL_law_23 (fun _ => rfl) rfl
theorem gcL_law_25 : ∀ i, cL_law.data.toList[i + 400]? = tcL_law_25[i]? := chs gcL_law_24 (fun _ => rfl) rfl
theorem gcL_law_26 : ∀ i, cL_law.data.toList[i + 416]? = tcL_law_26[i]? := chs gcL_law_25 (fun _ => rfl) rfl
theorem gcL_law_27 : ∀ i, cL_law.data.toList[i + 432]? = tcL_law_27[i]? := chs gcL_law_26 (fun _ => rfl) rfl
theorem gcL_law_28 : ∀ i, cL_law.data.toList[i + 448]? = tcL_law_28[i]? := chs gcL_law_27 (fun _ => rfl) rfl
theorem gcL_law_29 : ∀ i, cL_law.data.toList[i + 464]? = tcL_law_29[i]? := chs gcL_law_28 (fun _ => rfl) rfl
theorem gcL_law_30 : ∀ i, cL_law.data.toList[i + 480]? = tcL_law_30[i]? := chs gcL_law_29 (fun _ => rfl) rfl
theorem gcL_law_31 : ∀ i, cL_law.data.toList[i + 496]? = tcL_law_31[i]? := chs gcL_law_30 (fun _ => rfl) rfl
theorem gcL_law_32 : ∀ i, cL_law.data.toList[i + 512]? = tcL_law_32[i]? := chs gcL_law_31 (fun _ => rfl) rfl
theorem gcL_law_33 : ∀ i, cL_law.data.toList[i + 528]? = tcL_law_33[i]? := chs gcL_law_32 (fun _ => rfl) rfl
theorem gcL_law_34 : ∀ i, cL_law.data.toList[i + 544]? = tcL_law_34[i]? := chs gcL_law_33 (fun _ => rfl) rfl
theorem gcL_law_35 : ∀ i, cL_law.data.toList[i + 560]? = tcL_law_35[i]? := chs gcL_law_34 (fun _ => rfl) rfl
theorem gcL_law_36 : ∀ i, cL_law.data.toList[i + 576]? = tcL_law_36[i]? := chs gcL_law_35 (fun _ => rfl) rfl
theorem gcL_law_37 : ∀ i, cL_law.data.toList[i + 592]? = tcL_law_37[i]? := chs gcL_law_36 (fun _ => rfl) rfl
theorem gcL_law_38 : ∀ i, cL_law.data.toList[i + 608]? = tcL_law_38[i]? := chs gcL_law_37 (fun _ => rfl) rfl
theorem gcL_law_39 : ∀ i, cL_law.data.toList[i + 624]? = tcL_law_39[i]? := chs gcL_law_38 (fun _ => rfl) rfl
theorem gcL_law_40 : ∀ i, cL_law.data.toList[i + 640]? = tcL_law_40[i]? := chs gcL_law_39 (fun _ => rfl) rfl
theorem gcL_law_41 : ∀ i, cL_law.data.toList[i + 656]? = tcL_law_41[i]? := chs gcL_law_40 (fun _ => rfl) rfl
theorem gcL_law_42 : ∀ i, cL_law.data.toList[i + 672]? = tcL_law_42[i]? := chs gcL_law_41 (fun _ => rfl) rfl
theorem gcL_law_43 : ∀ i, cL_law.data.toList[i + 688]? = tcL_law_43[i]? := chs gcL_law_42 (fun _ => rfl) rfl
theorem gcL_law_44 : ∀ i, cL_law.data.toList[i + 704]? = tcL_law_44[i]? := chs gcL_law_43 (fun _ => rfl) rfl
theorem gcL_law_45 : ∀ i, cL_law.data.toList[i + 720]? = tcL_law_45[i]? := chs gcL_law_44 (fun _ => rfl) rfl
theorem gcL_law_46 : ∀ i, cL_law.data.toList[i + 736]? = tcL_law_46[i]? := chs gcL_law_45 (fun _ => rfl) rfl
theorem gcL_law_47 : ∀ i, cL_law.data.toList[i + 752]? = tcL_law_47[i]? := chs gcL_law_46 (fun _ => rfl) rfl
theorem gcL_law_48 : ∀ i, cL_law.data.toList[i + 768]? = tcL_law_48[i]? := chs gcL_law_47 (fun _ => rfl) rfl
theorem gcL_law_49 : ∀ i, cL_law.data.toList[i + 784]? = tcL_law_49[i]? := chs gcL_law_48 (fun _ => rfl) rfl
theorem gcL_law_50 : ∀ i, cL_law.data.toList[i + 800]? = tcL_law_50[i]? := chs gcL_law_49 (fun _ => rfl) rfl
theorem gcL_law_51 : ∀ i, cL_law.data.toList[i + 816]? = tcL_law_51[i]? := chs gcL_law_50 (fun _ => rfl) rfl
theorem gcL_law_52 : ∀ i, cL_law.data.toList[i + 832]? = tcL_law_52[i]? := chs gcL_law_51 (fun _ => rfl) rfl
theorem gcL_law_53 : ∀ i, cL_law.data.toList[i + 848]? = tcL_law_53[i]? := chs gcL_law_52 (fun _ => rfl) rfl
theorem gcL_law_54 : ∀ i, cL_law.data.toList[i + 864]? = tcL_law_54[i]? := chs gcL_law_53 (fun _ => rfl) rfl
theorem gcL_law_55 : ∀ i, cL_law.data.toList[i + 880]? = tcL_law_55[i]? := chs gcL_law_54 (fun _ => rfl) rfl
theorem gcL_law_56 : ∀ i, cL_law.data.toList[i + 896]? = tcL_law_56[i]? := chs gcL_law_55 (fun _ => rfl) rfl
theorem gcL_law_57 : ∀ i, cL_law.data.toList[i + 912]? = tcL_law_57[i]? := chs gcL_law_56 (fun _ => rfl) rfl
theorem gcL_law_58 : ∀ i, cL_law.data.toList[i + 928]? = tcL_law_58[i]? := chs gcL_law_57 (fun _ => rfl) rfl
theorem gcL_law_59 : ∀ i, cL_law.data.toList[i + 944]? = tcL_law_59[i]? := chs gcL_law_58 (fun _ => rfl) rfl
theorem gcL_law_60 : ∀ i, cL_law.data.toList[i + 960]? = tcL_law_60[i]? := chs gcL_law_59 (fun _ => rfl) rfl
theorem gcL_law_61 : ∀ i, cL_law.data.toList[i + 976]? = tcL_law_61[i]? := chs gcL_law_60 (fun _ => rfl) rfl
theorem gcL_law_62 : ∀ i, cL_law.data.toList[i + 992]? = tcL_law_62[i]? := chs gcL_law_61 (fun _ => rfl) rfl
theorem gcL_law_63 : ∀ i, cL_law.data.toList[i + 1008]? = tcL_law_63[i]? := chs gcL_law_62 (fun _ => rfl) rfl
theorem gcL_law_64 : ∀ i, cL_law.data.toList[i + 1024]? = tcL_law_64[i]? := chs gcL_law_63 (fun _ => rfl) rfl
