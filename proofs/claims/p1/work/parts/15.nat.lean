/-! rules for numbers nI n, and cells by lookups -/
def nA (g : Nat → Nat) : Nat → Int32 := fun j => nI (g j)
theorem nA_up (g : Nat → Nat) (i v : Nat) : upd (nA g) i (nI v) = nA (va_up g i v) := by
  funext j
  unfold upd nA va_up
  by_cases h : j = i <;> simp [h]
def Sm (A : List Nat) (h h' : MH) : Prop := h'.length = h.length ∧ ∀ q, q ∉ A → h'[q]? = h[q]?
theorem Sm.set (h : MH) (a : Nat) (e : va_E) : Sm [a] h (h.set a e) := by
  refine ⟨by simp, fun q hq => ?_⟩
  rw [List.getElem?_set_ne]
  simp at hq
  exact fun z => hq z.symm
theorem Sm.refl (A : List Nat) (h : MH) : Sm A h h := ⟨rfl, fun _ _ => rfl⟩
theorem Sm.get {A : List Nat} {h h' : MH} {a : Nat} {e : va_E} (s : Sm A h h') (hn : a ∉ A) (ha : h[a]? = some e) : h'[a]? = some e := (s.2 a hn).trans ha
theorem Sm.tr {A B C : List Nat} {h h1 h2 : MH} (s1 : Sm A h h1) (s2 : Sm B h1 h2) (hA : ∀ q, q ∈ A → q ∈ C) (hB : ∀ q, q ∈ B → q ∈ C) : Sm C h h2 :=
  ⟨s2.1.trans s1.1, fun q hq => (s2.2 q (fun z => hq (hB q z))).trans (s1.2 q (fun z => hq (hA q z)))⟩
theorem Sm.mono {A C : List Nat} {h h1 : MH} (s1 : Sm A h h1) (hA : ∀ q, q ∈ A → q ∈ C) : Sm C h h1 := ⟨s1.1, fun q hq => s1.2 q (fun z => hq (hA q z))⟩
theorem hs_eq {h : MH} {a : Nat} {e e0 : va_E} (h0 : h[a]? = some e0) : (h.set a e)[a]? = some e := by
  have hl : a < h.length := (List.getElem?_eq_some_iff.mp h0).1
  simp [hl]
theorem qI {Q : Option Value → MH → Prop} {h : MH} {x z : Int32} (k : Q (some (.int x)) h) (e : x = z) : Q (some (.int z)) h := e ▸ k
section NR
variable {l : Launch} {y : MD} {pc : Nat} {L : ML} {S : List Value} {h : MH} {Q : Option Value → MH → Prop}
theorem Go.hnew {a : Nat} {e e0 : va_E} {n : Nat} (ha : h[a]? = some e0) (k : ∀ h1 : MH, Sm [a] h h1 → h1[a]? = some e → Go l y n L S h1 Q) : Go l y n L S (h.set a e) Q := k _ (Sm.set h a e) (hs_eq ha)
theorem g_iaddN {a b c : Nat} (n : Nat) (d : decode y.2.1 pc = .ok (.iadd, 1)) (hc : a + b = c) (hn : pc + 1 = n) (k : Go l y n L (.int (nI c) :: S) h Q) : Go l y pc L (.int (nI b) :: .int (nI a) :: S) h Q := g_iadd n d hn (by rw [nI_add, hc]; exact k)
theorem g_isubN {a b c : Nat} (n : Nat) (d : decode y.2.1 pc = .ok (.isub, 1)) (hle : b ≤ a) (hc : a - b = c) (hn : pc + 1 = n) (k : Go l y n L (.int (nI c) :: S) h Q) : Go l y pc L (.int (nI b) :: .int (nI a) :: S) h Q := g_isub n d hn (by rw [pk_sub hle, hc]; exact k)
theorem g_imulN {a b c : Nat} (n : Nat) (d : decode y.2.1 pc = .ok (.imul, 1)) (hc : a * b = c) (hn : pc + 1 = n) (k : Go l y n L (.int (nI c) :: S) h Q) : Go l y pc L (.int (nI b) :: .int (nI a) :: S) h Q := g_imul n d hn (by rw [pk_mul, hc]; exact k)
theorem g_and255 {a c : Nat} (n : Nat) (d : decode y.2.1 pc = .ok (.iand, 1)) (ha : a < 4294967296) (hc : a % 256 = c) (hn : pc + 1 = n) (k : Go l y n L (.int (nI c) :: S) h Q) : Go l y pc L (.int (nI 255) :: .int (nI a) :: S) h Q := g_iand n d hn (by rw [pk_andN (m := nI 255) ha 8 (by decide)]; subst hc; exact k)
theorem g_iincN {i a : Nat} {L1 : ML} (n : Nat) (d : decode y.2.1 pc = .ok (.iinc i 1, 3)) (hg : L[i]? = some (some (.int (nI a)))) (hi : i < y.2.2.1) (hok : Lok L i = true) (hL : L.set i (some (.int (nI (a + 1)))) = L1) (hn : pc + 3 = n) (k : Go l y n L1 S h Q) : Go l y pc L S h Q := g_iinc n d hg (by rw [← nI_1]; rfl) hi hok hL hn k
theorem g_icN_eq {a b : Nat} {off : Int} (t n : Nat) (d : decode y.2.1 pc = .ok (.if_icmp .eq off, 3)) (ht : (pc : Int) + off = (t : Int)) (hn : pc + 3 = n) (ha : a < 2 ^ 31) (hb : b < 2 ^ 31) (kt : a = b → Go l y t L S h Q) (kf : a ≠ b → Go l y n L S h Q) : Go l y pc L (.int (nI b) :: .int (nI a) :: S) h Q := g_icmp_eq t n d ht hn (fun q => kt ((nI_eq ha hb).mp q)) (fun q => kf (fun z => q ((nI_eq ha hb).mpr z)))
theorem g_icN_ne {a b : Nat} {off : Int} (t n : Nat) (d : decode y.2.1 pc = .ok (.if_icmp .ne off, 3)) (ht : (pc : Int) + off = (t : Int)) (hn : pc + 3 = n) (ha : a < 2 ^ 31) (hb : b < 2 ^ 31) (kt : a ≠ b → Go l y t L S h Q) (kf : a = b → Go l y n L S h Q) : Go l y pc L (.int (nI b) :: .int (nI a) :: S) h Q := g_icmp_ne t n d ht hn (fun q => kt (fun z => q ((nI_eq ha hb).mpr z))) (fun q => kf ((nI_eq ha hb).mp q))
theorem g_icN_lt {a b : Nat} {off : Int} (t n : Nat) (d : decode y.2.1 pc = .ok (.if_icmp .lt off, 3)) (ht : (pc : Int) + off = (t : Int)) (hn : pc + 3 = n) (ha : a < 2 ^ 31) (hb : b < 2 ^ 31) (kt : a < b → Go l y t L S h Q) (kf : b ≤ a → Go l y n L S h Q) : Go l y pc L (.int (nI b) :: .int (nI a) :: S) h Q := g_icmp_lt t n d ht hn (fun q => kt ((nI_ltI ha hb).mp q)) (fun q => kf (Nat.not_lt.mp (fun z => q ((nI_ltI ha hb).mpr z))))
theorem g_icN_ge {a b : Nat} {off : Int} (t n : Nat) (d : decode y.2.1 pc = .ok (.if_icmp .ge off, 3)) (ht : (pc : Int) + off = (t : Int)) (hn : pc + 3 = n) (ha : a < 2 ^ 31) (hb : b < 2 ^ 31) (kt : b ≤ a → Go l y t L S h Q) (kf : a < b → Go l y n L S h Q) : Go l y pc L (.int (nI b) :: .int (nI a) :: S) h Q := g_icmp_ge t n d ht hn (fun q => kt ((nI_leI hb ha).mp q)) (fun q => kf (Nat.not_le.mp (fun z => q ((nI_leI hb ha).mpr z))))
theorem g_icN_gt {a b : Nat} {off : Int} (t n : Nat) (d : decode y.2.1 pc = .ok (.if_icmp .gt off, 3)) (ht : (pc : Int) + off = (t : Int)) (hn : pc + 3 = n) (ha : a < 2 ^ 31) (hb : b < 2 ^ 31) (kt : b < a → Go l y t L S h Q) (kf : a ≤ b → Go l y n L S h Q) : Go l y pc L (.int (nI b) :: .int (nI a) :: S) h Q := g_icmp_gt t n d ht hn (fun q => kt ((nI_ltI hb ha).mp q)) (fun q => kf (Nat.not_lt.mp (fun z => q ((nI_ltI hb ha).mpr z))))
theorem g_icN_le {a b : Nat} {off : Int} (t n : Nat) (d : decode y.2.1 pc = .ok (.if_icmp .le off, 3)) (ht : (pc : Int) + off = (t : Int)) (hn : pc + 3 = n) (ha : a < 2 ^ 31) (hb : b < 2 ^ 31) (kt : a ≤ b → Go l y t L S h Q) (kf : b < a → Go l y n L S h Q) : Go l y pc L (.int (nI b) :: .int (nI a) :: S) h Q := g_icmp_le t n d ht hn (fun q => kt ((nI_leI ha hb).mp q)) (fun q => kf (Nat.not_le.mp (fun z => q ((nI_leI ha hb).mpr z))))
theorem g_ifN_lt {a : Nat} {off : Int} (n : Nat) (d : decode y.2.1 pc = .ok (.ifCond .lt off, 3)) (t : Nat) (ht : (pc : Int) + off = (t : Int)) (hn : pc + 3 = n) (ha : a < 2 ^ 31) (k : Go l y n L S h Q) : Go l y pc L (.int (nI a) :: S) h Q := g_if_lt t n d ht hn (fun q => absurd q (nI_pos ha)) (fun _ => k)
theorem g_ifN_ge {a : Nat} {off : Int} (n : Nat) (d : decode y.2.1 pc = .ok (.ifCond .ge off, 3)) (t : Nat) (ht : (pc : Int) + off = (t : Int)) (hn : pc + 3 = n) (ha : a < 2 ^ 31) (k : Go l y t L S h Q) : Go l y pc L (.int (nI a) :: S) h Q := g_if_ge t n d ht hn (fun _ => k) (fun q => absurd (nI_pos' ha) q)
theorem nI_0iff {a : Nat} (ha : a < 2 ^ 31) : nI a = 0 ↔ a = 0 := by
  rw [← nI_0]
  exact nI_eq ha (by decide)
theorem g_ifN_eq {a : Nat} {off : Int} (t n : Nat) (d : decode y.2.1 pc = .ok (.ifCond .eq off, 3)) (ht : (pc : Int) + off = (t : Int)) (hn : pc + 3 = n) (ha : a < 2 ^ 31) (kt : a = 0 → Go l y t L S h Q) (kf : a ≠ 0 → Go l y n L S h Q) : Go l y pc L (.int (nI a) :: S) h Q := g_if_eq t n d ht hn (fun q => kt ((nI_0iff ha).mp q)) (fun q => kf (fun z => q ((nI_0iff ha).mpr z)))
theorem g_ifN_ne {a : Nat} {off : Int} (t n : Nat) (d : decode y.2.1 pc = .ok (.ifCond .ne off, 3)) (ht : (pc : Int) + off = (t : Int)) (hn : pc + 3 = n) (ha : a < 2 ^ 31) (kt : a ≠ 0 → Go l y t L S h Q) (kf : a = 0 → Go l y n L S h Q) : Go l y pc L (.int (nI a) :: S) h Q := g_if_ne t n d ht hn (fun q => kt (fun z => q ((nI_0iff ha).mpr z))) (fun q => kf ((nI_0iff ha).mp q))
theorem g_ifN_le {a : Nat} {off : Int} (t n : Nat) (d : decode y.2.1 pc = .ok (.ifCond .le off, 3)) (ht : (pc : Int) + off = (t : Int)) (hn : pc + 3 = n) (ha : a < 2 ^ 31) (kt : a = 0 → Go l y t L S h Q) (kf : 0 < a → Go l y n L S h Q) : Go l y pc L (.int (nI a) :: S) h Q := g_if_le t n d ht hn (fun q => kt (by
    rcases Nat.eq_zero_or_pos a with z | z
    · exact z
    · exact absurd q (nI_nle z ha))) (fun q => kf (by
    rcases Nat.eq_zero_or_pos a with z | z
    · exact absurd (by rw [z]; decide) q
    · exact z))
theorem g_ifN_gt {a : Nat} {off : Int} (t n : Nat) (d : decode y.2.1 pc = .ok (.ifCond .gt off, 3)) (ht : (pc : Int) + off = (t : Int)) (hn : pc + 3 = n) (ha : a < 2 ^ 31) (kt : 0 < a → Go l y t L S h Q) (kf : a = 0 → Go l y n L S h Q) : Go l y pc L (.int (nI a) :: S) h Q := g_if_gt t n d ht hn (fun q => kt (by
    rcases Nat.eq_zero_or_pos a with z | z
    · exact absurd q (by rw [z]; decide)
    · exact z)) (fun q => kf (by
    rcases Nat.eq_zero_or_pos a with z | z
    · exact z
    · exact absurd (by rw [← nI_0]; exact nI_lt z ha) q))
theorem g_ialdN {a N i : Nat} {f : Nat → Int32} {v : Int32} (n : Nat) (d : decode y.2.1 pc = .ok (.iaload, 1)) (ha : h[a]? = some (.inl (0, N, .inl f))) (hi : i < N) (hN : N < 2 ^ 31) (hv : f i = v) (hn : pc + 1 = n) (kk : Go l y n L (.int v :: S) h Q) : Go l y pc L (.int (nI i) :: .ref a :: S) h Q :=
  g_iald n d ha (vp_in_nI hi hN) (by rw [nI_clamp (Nat.lt_trans hi hN)]; exact hv) hn kk
theorem g_baldN {a N i : Nat} {f : Nat → Int32} {v : Int32} (n : Nat) (d : decode y.2.1 pc = .ok (.baload, 1)) (ha : h[a]? = some (.inl (1, N, .inl f))) (hi : i < N) (hN : N < 2 ^ 31) (hv : f i = v) (hn : pc + 1 = n) (kk : Go l y n L (.int v :: S) h Q) : Go l y pc L (.int (nI i) :: .ref a :: S) h Q :=
  g_bald n d ha (vp_in_nI hi hN) (by rw [nI_clamp (Nat.lt_trans hi hN)]; exact hv) hn kk
theorem g_aaldN {a N i kd : Nat} {f : Nat → Option Nat} {v : Value} (n : Nat) (d : decode y.2.1 pc = .ok (.aaload, 1)) (ha : h[a]? = some (.inl (kd, N, .inr (.inr (.inr (.inr f)))))) (hkd : kd = 2 ∨ kd = 3) (hi : i < N) (hN : N < 2 ^ 31) (hv : va_rf (f i) = v) (hn : pc + 1 = n) (kk : Go l y n L (v :: S) h Q) : Go l y pc L (.int (nI i) :: .ref a :: S) h Q :=
  g_aald n d ha hkd (vp_in_nI hi hN) (by rw [nI_clamp (Nat.lt_trans hi hN)]; exact hv) hn kk
theorem g_iastN {a N i : Nat} {f f1 : Nat → Int32} {x : Int32} (n : Nat) (d : decode y.2.1 pc = .ok (.iastore, 1)) (ha : h[a]? = some (.inl (0, N, .inl f))) (hi : i < N) (hN : N < 2 ^ 31) (hf1 : upd f i x = f1) (hn : pc + 1 = n) (kk : ∀ h1 : MH, Sm [a] h h1 → h1[a]? = some (.inl (0, N, .inl f1)) → Go l y n L S h1 Q) : Go l y pc L (.int x :: .int (nI i) :: .ref a :: S) h Q :=
  g_iast n d ha (vp_in_nI hi hN) (by rw [nI_clamp (Nat.lt_trans hi hN)]; exact hf1) hn (Go.hnew ha kk)
theorem g_bastN {a N i : Nat} {f f1 : Nat → Int32} {x : Int32} (n : Nat) (d : decode y.2.1 pc = .ok (.bastore, 1)) (ha : h[a]? = some (.inl (1, N, .inl f))) (hi : i < N) (hN : N < 2 ^ 31) (hf1 : upd f i (vp_nar .byte x) = f1) (hn : pc + 1 = n) (kk : ∀ h1 : MH, Sm [a] h h1 → h1[a]? = some (.inl (1, N, .inl f1)) → Go l y n L S h1 Q) : Go l y pc L (.int x :: .int (nI i) :: .ref a :: S) h Q :=
  g_bast n d ha (vp_in_nI hi hN) (by rw [nI_clamp (Nat.lt_trans hi hN)]; exact hf1) hn (Go.hnew ha kk)
theorem g_putC {i ci k a : Nat} {fs fs1 : List Value} {v : Value} {ty : FieldType} (n : Nat) (d : decode y.2.1 pc = .ok (.putfield i, 3)) (hF : FP y.1.cls i ci k ty) (ha : h[a]? = some (.inr (ci, fs))) (hk1 : k < fs.length) (hv : ∀ b, narrow ty (mv b v) = mv b v ∧ fits ty (mv b v) = true) (hf1 : fs.set k v = fs1) (hn : pc + 3 = n) (kk : ∀ h1 : MH, Sm [a] h h1 → h1[a]? = some (.inr (ci, fs1)) → Go l y n L S h1 Q) : Go l y pc L (v :: .ref a :: S) h Q :=
  g_put n d hF ha hk1 hv hf1 hn (Go.hnew ha kk)
/-- forget or restate -/
theorem Go.to {n : Nat} {L1 : ML} {S1 : List Value} (hL : L = L1) (hS : S = S1) (k : Go l y n L1 S1 h Q) : Go l y n L S h Q := by
  subst hL
  subst hS
  exact k
end NR
