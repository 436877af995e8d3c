/-! numbers as iZ z, z an Int; cells by lookups -/
def iZ (z : Int) : Int32 := Int32.ofInt z
abbrev rg (z : Int) : Prop := -2147483648 ≤ z ∧ z ≤ 2147483647
theorem iZ_toInt {z : Int} (h : rg z) : (iZ z).toInt = z := Int32.toInt_ofInt_of_le (by have := h.1; omega) (by have := h.2; omega)
theorem iZ_of (x : Int32) : iZ x.toInt = x := Int32.ofInt_toInt x
theorem rg_toInt (x : Int32) : rg x.toInt := by
  have h1 := Int32.le_toInt x
  have h2 := Int32.toInt_lt x
  exact ⟨by omega, by omega⟩
theorem iZ_add (a b : Int) : iZ a + iZ b = iZ (a + b) := (Int32.ofInt_add a b).symm
theorem iZ_sub (a b : Int) : iZ a - iZ b = iZ (a - b) := (Int32.ofInt_sub a b).symm
theorem iZ_mul (a b : Int) : iZ a * iZ b = iZ (a * b) := (Int32.ofInt_mul a b).symm
theorem iZ_lt {a b : Int} (ha : rg a) (hb : rg b) : iZ a < iZ b ↔ a < b := by rw [Int32.lt_iff_toInt_lt, iZ_toInt ha, iZ_toInt hb]
theorem iZ_le {a b : Int} (ha : rg a) (hb : rg b) : iZ a ≤ iZ b ↔ a ≤ b := by rw [Int32.le_iff_toInt_le, iZ_toInt ha, iZ_toInt hb]
theorem iZ_eq {a b : Int} (ha : rg a) (hb : rg b) : iZ a = iZ b ↔ a = b := ⟨fun h => by
  have := congrArg Int32.toInt h
  rwa [iZ_toInt ha, iZ_toInt hb] at this, fun h => by rw [h]⟩
theorem iZ_0 : (0 : Int32) = iZ 0 := by decide +kernel
theorem rg_0 : rg 0 := ⟨by decide, by decide⟩
theorem iZ_inI {z : Int} {N : Nat} (h0 : 0 ≤ z) (h1 : z < N) (hN : N < 2147483648) : vp_in (iZ z) N := by
  have hr : rg z := ⟨by omega, by omega⟩
  rw [vp_in_iff, iZ_toInt hr]
  exact ⟨h0, h1⟩
theorem iZ_cl {z : Int} (h0 : 0 ≤ z) (h1 : z < 2147483648) : (iZ z).toNatClampNeg = z.toNat := by
  have hr : rg z := ⟨by omega, by omega⟩
  show (iZ z).toInt.toNat = z.toNat
  rw [iZ_toInt hr]
def zA (g : Nat → Int) : Nat → Int32 := fun j => iZ (g j)
theorem zA_up (g : Nat → Int) (i : Nat) (v : Int) : upd (zA g) i (iZ v) = zA (va_up g i v) := by
  funext j
  unfold upd zA va_up
  by_cases h : j = i <;> simp [h]
def Sm (A : List Nat) (h h' : MH) : Prop := h'.length = h.length ∧ msz h' = msz h ∧ ∀ q, q ∉ A → h'[q]? = h[q]?
theorem Sm.set {h : MH} {a : Nat} {e e0 : va_E} (h0 : h[a]? = some e0) (hc : mcl e = mcl e0) : Sm [a] h (h.set a e) := by
  refine ⟨by simp, msz_set h0 hc, fun q hq => ?_⟩
  rw [List.getElem?_set_ne]
  simp at hq
  exact fun z => hq z.symm
theorem Sm.refl (A : List Nat) (h : MH) : Sm A h h := ⟨rfl, rfl, fun _ _ => rfl⟩
theorem Sm.get {A : List Nat} {h h' : MH} {a : Nat} {e : va_E} (s : Sm A h h') (hn : a ∉ A) (ha : h[a]? = some e) : h'[a]? = some e := (s.2.2 a hn).trans ha
theorem Sm.tr {A B C : List Nat} {h h1 h2 : MH} (s1 : Sm A h h1) (s2 : Sm B h1 h2) (hA : ∀ q, q ∈ A → q ∈ C) (hB : ∀ q, q ∈ B → q ∈ C) : Sm C h h2 :=
  ⟨s2.1.trans s1.1, s2.2.1.trans s1.2.1, fun q hq => (s2.2.2 q (fun z => hq (hB q z))).trans (s1.2.2 q (fun z => hq (hA q z)))⟩
theorem Sm.mono {A C : List Nat} {h h1 : MH} (s1 : Sm A h h1) (hA : ∀ q, q ∈ A → q ∈ C) : Sm C h h1 := ⟨s1.1, s1.2.1, fun q hq => s1.2.2 q (fun z => hq (hA q z))⟩
theorem hs_eq {h : MH} {a : Nat} {e e0 : va_E} (h0 : h[a]? = some e0) : (h.set a e)[a]? = some e := by
  have hl : a < h.length := (List.getElem?_eq_some_iff.mp h0).1
  simp [hl]
theorem nle {a b : Nat} (h : Nat.ble a b = true) : a ≤ b := Nat.le_of_ble_eq_true h
section ZR
variable {l : Launch} {y : MD} {pc : Nat} {L : ML} {S : List Value} {h : MH} {Q : Option Value → MH → Prop}
theorem rI {x : Int32} (k : Go l y pc L (.int x :: S) h Q) : Go l y pc L ((some (Value.int x)).toList ++ S) h Q := k
theorem rL {x : Int64} (k : Go l y pc L (.long x :: S) h Q) : Go l y pc L ((some (Value.long x)).toList ++ S) h Q := k
theorem rR {x : Nat} (k : Go l y pc L (.ref x :: S) h Q) : Go l y pc L ((some (Value.ref x)).toList ++ S) h Q := k
theorem rN (k : Go l y pc L (.null :: S) h Q) : Go l y pc L ((some Value.null).toList ++ S) h Q := k
theorem rV (k : Go l y pc L S h Q) : Go l y pc L ((none : Option Value).toList ++ S) h Q := k
theorem Go.gen {x : Int32} (k : ∀ w : Int32, Go l y pc L (.int w :: S) h Q) : Go l y pc L (.int x :: S) h Q := k x
theorem Go.hnew {a : Nat} {e e0 : va_E} {n : Nat} (ha : h[a]? = some e0) (hc : mcl e = mcl e0) (k : ∀ h1 : MH, Sm [a] h h1 → h1[a]? = some e → Go l y n L S h1 Q) : Go l y n L S (h.set a e) Q := k _ (Sm.set ha hc) (hs_eq ha)
theorem Go.to {n : Nat} (L1 : ML) (S1 : List Value) (hL : L = L1) (hS : S = S1) (k : Go l y n L1 S1 h Q) : Go l y n L S h Q := by
  subst hL
  subst hS
  exact k
theorem Go.toH {n : Nat} (S1 : List Value) (h1 : MH) (hS : S = S1) (hh : h = h1) (k : Go l y n L S1 h1 Q) : Go l y n L S h Q := by
  subst hh
  subst hS
  exact k
theorem g_iaddZ {a b : Int} (c : Int) (n : Nat) (d : decode y.2.1 pc = .ok (.iadd, 1)) (hc : a + b = c) (hn : pc + 1 = n) (k : Go l y n L (.int (iZ c) :: S) h Q) : Go l y pc L (.int (iZ b) :: .int (iZ a) :: S) h Q := g_iadd n d hn (by rw [iZ_add, hc]; exact k)
theorem g_isubZ {a b : Int} (c : Int) (n : Nat) (d : decode y.2.1 pc = .ok (.isub, 1)) (hc : a - b = c) (hn : pc + 1 = n) (k : Go l y n L (.int (iZ c) :: S) h Q) : Go l y pc L (.int (iZ b) :: .int (iZ a) :: S) h Q := g_isub n d hn (by rw [iZ_sub, hc]; exact k)
theorem g_imulZ {a b : Int} (c : Int) (n : Nat) (d : decode y.2.1 pc = .ok (.imul, 1)) (hc : a * b = c) (hn : pc + 1 = n) (k : Go l y n L (.int (iZ c) :: S) h Q) : Go l y pc L (.int (iZ b) :: .int (iZ a) :: S) h Q := g_imul n d hn (by rw [iZ_mul, hc]; exact k)
theorem g_minZ {i : Nat} {a b : Int} (c : Int) (n : Nat) (d : decode y.2.1 pc = .ok (.invokestatic i, 3)) (hw : Cond.methodLink y.1.cls i Lib.Math.min.name ∈ gw) (hw2 : Cond.static Lib.Math.min.name ∈ gw) (hw3 : Cond.initialized "java/lang/Math" ∈ gw) (hw4 : Cond.code Lib.Math.min.name Lib.Math.min.code 2 (some .int) ∈ gw) (h1 : 1 ≤ y.2.2.2.2.1) (h2 : (S.map fun v => v.category).sum + 13 ≤ y.2.2.2.2.2) (hc : (if iZ b < iZ a then iZ b else iZ a) = iZ c) (hn : pc + 3 = n) (k : Go l y n L (.int (iZ c) :: S) h Q) : Go l y pc L (.int (iZ b) :: .int (iZ a) :: S) h Q := g_min n d hw hw2 hw3 hw4 h1 h2 hn (by rw [hc]; exact k)
theorem g_maxZ {i : Nat} {a b : Int} (c : Int) (n : Nat) (d : decode y.2.1 pc = .ok (.invokestatic i, 3)) (hw : Cond.methodLink y.1.cls i Lib.Math.max.name ∈ gw) (hw2 : Cond.static Lib.Math.max.name ∈ gw) (hw3 : Cond.initialized "java/lang/Math" ∈ gw) (hw4 : Cond.code Lib.Math.max.name Lib.Math.max.code 2 (some .int) ∈ gw) (h1 : 1 ≤ y.2.2.2.2.1) (h2 : (S.map fun v => v.category).sum + 13 ≤ y.2.2.2.2.2) (hc : (if iZ a < iZ b then iZ b else iZ a) = iZ c) (hn : pc + 3 = n) (k : Go l y n L (.int (iZ c) :: S) h Q) : Go l y pc L (.int (iZ b) :: .int (iZ a) :: S) h Q := g_max n d hw hw2 hw3 hw4 h1 h2 hn (by rw [hc]; exact k)
theorem g_iandZ {a b : Int} (c : Int) (n : Nat) (d : decode y.2.1 pc = .ok (.iand, 1)) (hc : iZ a &&& iZ b = iZ c) (hn : pc + 1 = n) (k : Go l y n L (.int (iZ c) :: S) h Q) : Go l y pc L (.int (iZ b) :: .int (iZ a) :: S) h Q := g_iand n d hn (by rw [hc]; exact k)
theorem g_iorZ {a b : Int} (c : Int) (n : Nat) (d : decode y.2.1 pc = .ok (.ior, 1)) (hc : iZ a ||| iZ b = iZ c) (hn : pc + 1 = n) (k : Go l y n L (.int (iZ c) :: S) h Q) : Go l y pc L (.int (iZ b) :: .int (iZ a) :: S) h Q := g_ior n d hn (by rw [hc]; exact k)
theorem g_ixorZ {a b : Int} (c : Int) (n : Nat) (d : decode y.2.1 pc = .ok (.ixor, 1)) (hc : iZ a ^^^ iZ b = iZ c) (hn : pc + 1 = n) (k : Go l y n L (.int (iZ c) :: S) h Q) : Go l y pc L (.int (iZ b) :: .int (iZ a) :: S) h Q := g_ixor n d hn (by rw [hc]; exact k)
theorem g_ishlZ {a b : Int} (c : Int) (n : Nat) (d : decode y.2.1 pc = .ok (.ishl, 1)) (hc : iZ a <<< (iZ b &&& 31) = iZ c) (hn : pc + 1 = n) (k : Go l y n L (.int (iZ c) :: S) h Q) : Go l y pc L (.int (iZ b) :: .int (iZ a) :: S) h Q := g_ishl n d hn (by rw [hc]; exact k)
theorem g_ishrZ {a b : Int} (c : Int) (n : Nat) (d : decode y.2.1 pc = .ok (.ishr, 1)) (hc : iZ a >>> (iZ b &&& 31) = iZ c) (hn : pc + 1 = n) (k : Go l y n L (.int (iZ c) :: S) h Q) : Go l y pc L (.int (iZ b) :: .int (iZ a) :: S) h Q := g_ishr n d hn (by rw [hc]; exact k)
theorem g_iincZ {i : Nat} {j a c : Int} (L1 : ML) (n : Nat) (d : decode y.2.1 pc = .ok (.iinc i j, 3)) (hg : L[i]? = some (some (.int (iZ a)))) (hc : a + j = c) (hi : i < y.2.2.1) (hok : Lok L i = true) (hL : L.set i (some (.int (iZ c))) = L1) (hn : pc + 3 = n) (k : Go l y n L1 S h Q) : Go l y pc L S h Q := g_iinc n d hg (by show iZ a + iZ j = iZ c; rw [iZ_add, hc]) hi hok hL hn k
theorem g_icZ_eq {a b : Int} {off : Int} (t n : Nat) (d : decode y.2.1 pc = .ok (.if_icmp .eq off, 3)) (ht : (pc : Int) + off = (t : Int)) (hn : pc + 3 = n) (ha : rg a) (hb : rg b) (kt : a = b → Go l y t L S h Q) (kf : ¬ a = b → Go l y n L S h Q) : Go l y pc L (.int (iZ b) :: .int (iZ a) :: S) h Q := g_icmp_eq t n d ht hn (fun q => kt ((iZ_eq ha hb).mp q)) (fun q => kf (fun z => q ((iZ_eq ha hb).mpr z)))
theorem g_ifZ_eq {a : Int} {off : Int} (t n : Nat) (d : decode y.2.1 pc = .ok (.ifCond .eq off, 3)) (ht : (pc : Int) + off = (t : Int)) (hn : pc + 3 = n) (ha : rg a) (kt : a = 0 → Go l y t L S h Q) (kf : ¬ a = 0 → Go l y n L S h Q) : Go l y pc L (.int (iZ a) :: S) h Q := by
  have hb := rg_0
  refine g_if_eq t n d ht hn ?_ ?_ <;> rw [iZ_0]
  · exact (fun q => kt ((iZ_eq ha hb).mp q))
  · exact (fun q => kf (fun z => q ((iZ_eq ha hb).mpr z)))
theorem g_icZ_ne {a b : Int} {off : Int} (t n : Nat) (d : decode y.2.1 pc = .ok (.if_icmp .ne off, 3)) (ht : (pc : Int) + off = (t : Int)) (hn : pc + 3 = n) (ha : rg a) (hb : rg b) (kt : ¬ a = b → Go l y t L S h Q) (kf : a = b → Go l y n L S h Q) : Go l y pc L (.int (iZ b) :: .int (iZ a) :: S) h Q := g_icmp_ne t n d ht hn (fun q => kt (fun z => q ((iZ_eq ha hb).mpr z))) (fun q => kf ((iZ_eq ha hb).mp q))
theorem g_ifZ_ne {a : Int} {off : Int} (t n : Nat) (d : decode y.2.1 pc = .ok (.ifCond .ne off, 3)) (ht : (pc : Int) + off = (t : Int)) (hn : pc + 3 = n) (ha : rg a) (kt : ¬ a = 0 → Go l y t L S h Q) (kf : a = 0 → Go l y n L S h Q) : Go l y pc L (.int (iZ a) :: S) h Q := by
  have hb := rg_0
  refine g_if_ne t n d ht hn ?_ ?_ <;> rw [iZ_0]
  · exact (fun q => kt (fun z => q ((iZ_eq ha hb).mpr z)))
  · exact (fun q => kf ((iZ_eq ha hb).mp q))
theorem g_icZ_lt {a b : Int} {off : Int} (t n : Nat) (d : decode y.2.1 pc = .ok (.if_icmp .lt off, 3)) (ht : (pc : Int) + off = (t : Int)) (hn : pc + 3 = n) (ha : rg a) (hb : rg b) (kt : a < b → Go l y t L S h Q) (kf : b ≤ a → Go l y n L S h Q) : Go l y pc L (.int (iZ b) :: .int (iZ a) :: S) h Q := g_icmp_lt t n d ht hn (fun q => kt ((iZ_lt ha hb).mp q)) (fun q => kf (Int.not_lt.mp (fun z => q ((iZ_lt ha hb).mpr z))))
theorem g_ifZ_lt {a : Int} {off : Int} (t n : Nat) (d : decode y.2.1 pc = .ok (.ifCond .lt off, 3)) (ht : (pc : Int) + off = (t : Int)) (hn : pc + 3 = n) (ha : rg a) (kt : a < 0 → Go l y t L S h Q) (kf : 0 ≤ a → Go l y n L S h Q) : Go l y pc L (.int (iZ a) :: S) h Q := by
  have hb := rg_0
  refine g_if_lt t n d ht hn ?_ ?_ <;> rw [iZ_0]
  · exact (fun q => kt ((iZ_lt ha hb).mp q))
  · exact (fun q => kf (Int.not_lt.mp (fun z => q ((iZ_lt ha hb).mpr z))))
theorem g_icZ_ge {a b : Int} {off : Int} (t n : Nat) (d : decode y.2.1 pc = .ok (.if_icmp .ge off, 3)) (ht : (pc : Int) + off = (t : Int)) (hn : pc + 3 = n) (ha : rg a) (hb : rg b) (kt : b ≤ a → Go l y t L S h Q) (kf : a < b → Go l y n L S h Q) : Go l y pc L (.int (iZ b) :: .int (iZ a) :: S) h Q := g_icmp_ge t n d ht hn (fun q => kt ((iZ_le hb ha).mp q)) (fun q => kf (Int.not_le.mp (fun z => q ((iZ_le hb ha).mpr z))))
theorem g_ifZ_ge {a : Int} {off : Int} (t n : Nat) (d : decode y.2.1 pc = .ok (.ifCond .ge off, 3)) (ht : (pc : Int) + off = (t : Int)) (hn : pc + 3 = n) (ha : rg a) (kt : 0 ≤ a → Go l y t L S h Q) (kf : a < 0 → Go l y n L S h Q) : Go l y pc L (.int (iZ a) :: S) h Q := by
  have hb := rg_0
  refine g_if_ge t n d ht hn ?_ ?_ <;> rw [iZ_0]
  · exact (fun q => kt ((iZ_le hb ha).mp q))
  · exact (fun q => kf (Int.not_le.mp (fun z => q ((iZ_le hb ha).mpr z))))
theorem g_icZ_gt {a b : Int} {off : Int} (t n : Nat) (d : decode y.2.1 pc = .ok (.if_icmp .gt off, 3)) (ht : (pc : Int) + off = (t : Int)) (hn : pc + 3 = n) (ha : rg a) (hb : rg b) (kt : b < a → Go l y t L S h Q) (kf : a ≤ b → Go l y n L S h Q) : Go l y pc L (.int (iZ b) :: .int (iZ a) :: S) h Q := g_icmp_gt t n d ht hn (fun q => kt ((iZ_lt hb ha).mp q)) (fun q => kf (Int.not_lt.mp (fun z => q ((iZ_lt hb ha).mpr z))))
theorem g_ifZ_gt {a : Int} {off : Int} (t n : Nat) (d : decode y.2.1 pc = .ok (.ifCond .gt off, 3)) (ht : (pc : Int) + off = (t : Int)) (hn : pc + 3 = n) (ha : rg a) (kt : 0 < a → Go l y t L S h Q) (kf : a ≤ 0 → Go l y n L S h Q) : Go l y pc L (.int (iZ a) :: S) h Q := by
  have hb := rg_0
  refine g_if_gt t n d ht hn ?_ ?_ <;> rw [iZ_0]
  · exact (fun q => kt ((iZ_lt hb ha).mp q))
  · exact (fun q => kf (Int.not_lt.mp (fun z => q ((iZ_lt hb ha).mpr z))))
theorem g_icZ_le {a b : Int} {off : Int} (t n : Nat) (d : decode y.2.1 pc = .ok (.if_icmp .le off, 3)) (ht : (pc : Int) + off = (t : Int)) (hn : pc + 3 = n) (ha : rg a) (hb : rg b) (kt : a ≤ b → Go l y t L S h Q) (kf : b < a → Go l y n L S h Q) : Go l y pc L (.int (iZ b) :: .int (iZ a) :: S) h Q := g_icmp_le t n d ht hn (fun q => kt ((iZ_le ha hb).mp q)) (fun q => kf (Int.not_le.mp (fun z => q ((iZ_le ha hb).mpr z))))
theorem g_ifZ_le {a : Int} {off : Int} (t n : Nat) (d : decode y.2.1 pc = .ok (.ifCond .le off, 3)) (ht : (pc : Int) + off = (t : Int)) (hn : pc + 3 = n) (ha : rg a) (kt : a ≤ 0 → Go l y t L S h Q) (kf : 0 < a → Go l y n L S h Q) : Go l y pc L (.int (iZ a) :: S) h Q := by
  have hb := rg_0
  refine g_if_le t n d ht hn ?_ ?_ <;> rw [iZ_0]
  · exact (fun q => kt ((iZ_le ha hb).mp q))
  · exact (fun q => kf (Int.not_le.mp (fun z => q ((iZ_le ha hb).mpr z))))
theorem g_ialdZ {a N : Nat} {i : Int} {f : Nat → Int32} {v : Int32} (n : Nat) (d : decode y.2.1 pc = .ok (.iaload, 1)) (ha : h[a]? = some (.inl (0, N, .inl f))) (h0 : 0 ≤ i) (h1 : i < N) (hN : N < 2147483648) (hv : f i.toNat = v) (hn : pc + 1 = n) (kk : Go l y n L (.int v :: S) h Q) : Go l y pc L (.int (iZ i) :: .ref a :: S) h Q :=
  g_iald n d ha (iZ_inI h0 h1 hN) (by rw [iZ_cl h0 (by omega)]; exact hv) hn kk
theorem g_baldZ {a N : Nat} {i : Int} {f : Nat → Int32} {v : Int32} (n : Nat) (d : decode y.2.1 pc = .ok (.baload, 1)) (ha : h[a]? = some (.inl (1, N, .inl f))) (h0 : 0 ≤ i) (h1 : i < N) (hN : N < 2147483648) (hv : f i.toNat = v) (hn : pc + 1 = n) (kk : Go l y n L (.int v :: S) h Q) : Go l y pc L (.int (iZ i) :: .ref a :: S) h Q :=
  g_bald n d ha (iZ_inI h0 h1 hN) (by rw [iZ_cl h0 (by omega)]; exact hv) hn kk
theorem g_aaldZ {a N kd : Nat} {i : Int} {f : Nat → Option Nat} {v : Value} (n : Nat) (d : decode y.2.1 pc = .ok (.aaload, 1)) (ha : h[a]? = some (.inl (kd, N, .inr (.inr (.inr (.inr f)))))) (hkd : kd = 2 ∨ kd = 3) (h0 : 0 ≤ i) (h1 : i < N) (hN : N < 2147483648) (hv : va_rf (f i.toNat) = v) (hn : pc + 1 = n) (kk : Go l y n L (v :: S) h Q) : Go l y pc L (.int (iZ i) :: .ref a :: S) h Q :=
  g_aald n d ha hkd (iZ_inI h0 h1 hN) (by rw [iZ_cl h0 (by omega)]; exact hv) hn kk
theorem g_iastZ {a N : Nat} {i : Int} {f f1 : Nat → Int32} {x : Int32} (n : Nat) (d : decode y.2.1 pc = .ok (.iastore, 1)) (ha : h[a]? = some (.inl (0, N, .inl f))) (h0 : 0 ≤ i) (h1 : i < N) (hN : N < 2147483648) (hf1 : upd f i.toNat x = f1) (hn : pc + 1 = n) (kk : ∀ h1 : MH, Sm [a] h h1 → h1[a]? = some (.inl (0, N, .inl f1)) → Go l y n L S h1 Q) : Go l y pc L (.int x :: .int (iZ i) :: .ref a :: S) h Q :=
  g_iast n d ha (iZ_inI h0 h1 hN) (by rw [iZ_cl h0 (by omega)]; exact hf1) hn (Go.hnew (e := .inl (0, N, .inl f1)) ha rfl kk)
theorem g_bastZ {a N : Nat} {i : Int} {f f1 : Nat → Int32} {x : Int32} (n : Nat) (d : decode y.2.1 pc = .ok (.bastore, 1)) (ha : h[a]? = some (.inl (1, N, .inl f))) (h0 : 0 ≤ i) (h1 : i < N) (hN : N < 2147483648) (hf1 : upd f i.toNat (vp_nar .byte x) = f1) (hn : pc + 1 = n) (kk : ∀ h1 : MH, Sm [a] h h1 → h1[a]? = some (.inl (1, N, .inl f1)) → Go l y n L S h1 Q) : Go l y pc L (.int x :: .int (iZ i) :: .ref a :: S) h Q :=
  g_bast n d ha (iZ_inI h0 h1 hN) (by rw [iZ_cl h0 (by omega)]; exact hf1) hn (Go.hnew (e := .inl (1, N, .inl f1)) ha rfl kk)
theorem g_putC {i ci k a : Nat} {fs fs1 : List Value} {v : Value} {ty : FieldType} (n : Nat) (d : decode y.2.1 pc = .ok (.putfield i, 3)) (hF : FP y.1.cls i ci k ty) (ha : h[a]? = some (.inr (ci, fs))) (hk1 : k < fs.length) (hv : ∀ b, narrow ty (mv b v) = mv b v ∧ fits ty (mv b v) = true) (hf1 : fs.set k v = fs1) (hn : pc + 3 = n) (kk : ∀ h1 : MH, Sm [a] h h1 → h1[a]? = some (.inr (ci, fs1)) → Go l y n L S h1 Q) : Go l y pc L (v :: .ref a :: S) h Q :=
  g_put n d hF ha hk1 hv hf1 hn (Go.hnew ha (by subst hf1; simp [mcl]) kk)
theorem vI (x : Int32) : ∀ b, narrow .int (mv b (.int x)) = mv b (.int x) ∧ fits .int (mv b (.int x)) = true := fun _ => ⟨rfl, rfl⟩
theorem vL (x : Int64) : ∀ b, narrow .long (mv b (.long x)) = mv b (.long x) ∧ fits .long (mv b (.long x)) = true := fun _ => ⟨rfl, rfl⟩
theorem vZ0 : ∀ b, narrow .boolean (mv b (.int (iZ 0))) = mv b (.int (iZ 0)) ∧ fits .boolean (mv b (.int (iZ 0))) = true := fun _ => (by decide +kernel : narrow .boolean (.int (iZ 0)) = .int (iZ 0) ∧ fits .boolean (.int (iZ 0)) = true)
theorem vZ1 : ∀ b, narrow .boolean (mv b (.int (iZ 1))) = mv b (.int (iZ 1)) ∧ fits .boolean (mv b (.int (iZ 1))) = true := fun _ => (by decide +kernel : narrow .boolean (.int (iZ 1)) = .int (iZ 1) ∧ fits .boolean (.int (iZ 1)) = true)
theorem vR (C0 : String) (x : Nat) : ∀ b, narrow (.object C0) (mv b (.ref x)) = mv b (.ref x) ∧ fits (.object C0) (mv b (.ref x)) = true := fun _ => ⟨rfl, rfl⟩
theorem vA (t : FieldType) (x : Nat) : ∀ b, narrow (.array t) (mv b (.ref x)) = mv b (.ref x) ∧ fits (.array t) (mv b (.ref x)) = true := fun _ => ⟨rfl, rfl⟩
theorem z01_0 : iZ 0 = 0 ∨ iZ 0 = 1 := Or.inl (by decide +kernel)
theorem z01_1 : iZ 1 = 0 ∨ iZ 1 = 1 := Or.inr (by decide +kernel)
theorem g_tabZO {dflt lo hi : Int} {offs : Array Int} {len : Nat} {a : Int} (t : Nat) (d : decode y.2.1 pc = .ok (.tableswitch dflt lo hi offs, len)) (ha : rg a) (hx : a < lo ∨ hi < a) (ht : (pc : Int) + dflt = (t : Int)) (k : Go l y t L S h Q) : Go l y pc L (.int (iZ a) :: S) h Q := g_tabOut t d (by rw [iZ_toInt ha]; exact hx) ht k
theorem g_tabZI {dflt lo hi : Int} {offs : Array Int} {len : Nat} {a : Int} (c : Int) {off : Int} (t : Nat) (d : decode y.2.1 pc = .ok (.tableswitch dflt lo hi offs, len)) (ha : rg a) (hc : a = c) (h1 : lo ≤ c) (h2 : c ≤ hi) (hof : offs[(c - lo).toNat]? = some off) (ht : (pc : Int) + off = (t : Int)) (k : Go l y t L S h Q) : Go l y pc L (.int (iZ a) :: S) h Q := by
  subst hc
  exact g_tabIn t d (by rw [iZ_toInt ha]; omega) (by rw [iZ_toInt ha]; omega) (by rw [iZ_toInt ha]; exact hof) ht k
end ZR
