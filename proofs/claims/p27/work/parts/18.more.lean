theorem iZ_nat' (n : Nat) : Int32.ofNat n = iZ (n : Int) := Int32.ofInt_eq_ofNat.symm
/-- every number of it is an int's -/
def okr (g : Nat → Int) : Prop := ∀ j, rg (g j)
theorem okr_up {g : Nat → Int} (h : okr g) (i : Nat) {v : Int} (hv : rg v) : okr (va_up g i v) := by
  intro j
  unfold va_up
  split
  · exact hv
  · exact h j
theorem okr_0 : okr (fun _ => 0) := fun _ => rg_0
theorem zA_0 : (fun _ => (0 : Int32)) = zA (fun _ => 0) := by
  funext j
  exact iZ_0
theorem z01 {r : Int} (h : r = 0 ∨ r = 1) : iZ r = 0 ∨ iZ r = 1 := by
  rcases h with rfl | rfl
  · exact z01_0
  · exact z01_1
theorem rg01 {r : Int} (h : r = 0 ∨ r = 1) : rg r := by
  rcases h with rfl | rfl <;> exact ⟨by decide, by decide⟩
/-- new cells e at the end -/
def Nw (h h' : MH) (e : va_E) : Prop := h'.length = h.length + 1 ∧ msz h' = msz h + mcl e ∧ ∀ (q : Nat) (x : va_E), h[q]? = some x → h'[q]? = some x
theorem Nw.get {h h' : MH} {e x : va_E} {a : Nat} (s : Nw h h' e) (ha : h[a]? = some x) : h'[a]? = some x := s.2.2 a x ha
section MR
variable {l : Launch} {y : MD} {pc : Nat} {L : ML} {S : List Value} {h : MH} {Q : Option Value → MH → Prop}
theorem Go.genZ {x : Int32} (k : ∀ z : Int, rg z → Go l y pc L (.int (iZ z) :: S) h Q) : Go l y pc L (.int x :: S) h Q := by
  have := k x.toInt (rg_toInt x)
  rw [iZ_of] at this
  exact this
theorem Go.eqI {x : Int32} (z : Int32) (e : x = z) (k : Go l y pc L (.int z :: S) h Q) : Go l y pc L (.int x :: S) h Q := by
  subst e
  exact k
theorem Go.zof {x : Int32} (k : Go l y pc L (.int (iZ x.toInt) :: S) h Q) : Go l y pc L (.int x :: S) h Q := by
  rw [iZ_of] at k
  exact k
theorem Lh.fgt {b n i : Nat} {ls : Array Slot} {L : ML} (hl : Lh b ls n L) : Lh b ls n (L.set i none) := ⟨hl.1, hl.2.1, fun j v hv => by
  rw [List.getElem?_set] at hv
  split at hv
  · split at hv <;> cases hv
  · exact hl.2.2 j v hv⟩
/-- a local that is no longer wanted -/
theorem Go.fgt (i : Nat) (k : Go l y pc (L.set i none) S h Q) : Go l y pc L S h Q := by
  obtain ⟨r, h', q, g1, g2, g3⟩ := k
  exact ⟨r, h', q, g1, g2, fun p e R s m args below meth c b D kA H locs cells slots ls C hf ho hc hs hR hS hL => g3 p e R s m args below meth c b D kA H locs cells slots ls C hf ho hc hs hR hS hL.fgt⟩
theorem g_ialdW {a N : Nat} {i : Int} {g : Nat → Int} (n : Nat) (d : decode y.2.1 pc = .ok (.iaload, 1)) (ha : h[a]? = some (.inl (0, N, .inl (zA g)))) (hg : okr g) (h0 : 0 ≤ i) (h1 : i < N) (hN : N < 2147483648) (hn : pc + 1 = n) (kk : ∀ v : Int, rg v → Go l y n L (.int (iZ v) :: S) h Q) : Go l y pc L (.int (iZ i) :: .ref a :: S) h Q :=
  g_ialdZ n d ha h0 h1 hN rfl hn (kk _ (hg _))
theorem g_iastW {a N : Nat} {i v : Int} {g : Nat → Int} (n : Nat) (d : decode y.2.1 pc = .ok (.iastore, 1)) (ha : h[a]? = some (.inl (0, N, .inl (zA g)))) (hg : okr g) (hv : rg v) (h0 : 0 ≤ i) (h1 : i < N) (hN : N < 2147483648) (hn : pc + 1 = n) (kk : ∀ (h1 : MH) (g1 : Nat → Int), okr g1 → Sm [a] h h1 → h1[a]? = some (.inl (0, N, .inl (zA g1))) → Go l y n L S h1 Q) : Go l y pc L (.int (iZ v) :: .int (iZ i) :: .ref a :: S) h Q :=
  g_iastZ n d ha h0 h1 hN (zA_up g i.toNat v) hn (fun h1 s f => kk h1 _ (okr_up hg _ hv) s f)
theorem g_iastF {a N : Nat} {i v : Int} {g : Nat → Int} (n : Nat) (d : decode y.2.1 pc = .ok (.iastore, 1)) (ha : h[a]? = some (.inl (0, N, .inl (zA g)))) (h0 : 0 ≤ i) (h1 : i < N) (hN : N < 2147483648) (hn : pc + 1 = n) (kk : ∀ (h1 : MH), Sm [a] h h1 → h1[a]? = some (.inl (0, N, .inl (zA (va_up g i.toNat v)))) → Go l y n L S h1 Q) : Go l y pc L (.int (iZ v) :: .int (iZ i) :: .ref a :: S) h Q :=
  g_iastZ n d ha h0 h1 hN (zA_up g i.toNat v) hn kk
theorem Nw.push (h : MH) (e : va_E) : Nw h (h ++ [e]) e := ⟨by simp, msz_push, fun q x hx => by
  rw [List.getElem?_append_left (List.getElem?_eq_some_iff.mp hx).1]
  exact hx⟩
theorem g_newN {i ci : Nat} {fs : List Value} (a n : Nat) (d : decode y.2.1 pc = .ok (.new i, 3)) (hF : FN y.1.cls i ci fs) (hn : pc + 3 = n) (hl : h.length = a) (kk : ∀ h1 : MH, Nw h h1 (.inr (ci, fs)) → h1[a]? = some (.inr (ci, fs)) → Go l y n L (.ref a :: S) h1 Q) : Go l y pc L S h Q := by
  subst hl
  exact g_new n d hF hn (kk _ (Nw.push h _) (by simp))
theorem g_newarrN {N : Nat} {x : Int} (a n : Nat) (d : decode y.2.1 pc = .ok (.newarray .int, 2)) (hx0 : 0 ≤ x) (hN : x = N) (hbig : N ≤ 100000) (hn : pc + 2 = n) (hl : h.length = a) (kk : ∀ h1 : MH, Nw h h1 (.inl (0, N, .inl (zA (fun _ => 0)))) → h1[a]? = some (.inl (0, N, .inl (zA (fun _ => 0)))) → Go l y n L (.ref a :: S) h1 Q) : Go l y pc L (.int (iZ x) :: S) h Q := by
  subst hl
  subst hN
  have hr : rg (N : Int) := ⟨by omega, by omega⟩
  refine g_newarr (kd := 0) (N := N) n d (Or.inl ⟨rfl, rfl⟩) wArrI (by rw [iZ_0, iZ_lt hr rg_0]; omega) (by rw [iZ_cl (by omega) (by omega)]; omega) hbig hn ?_
  rw [zA_0]
  exact kk _ (Nw.push h _) (by simp)
theorem g_putFN {i ci k a : Nat} {fs fs1 : List Value} {v : Value} {ty : FieldType} (n : Nat) (d : decode y.2.1 pc = .ok (.putfield i, 3)) (hF : FPF y.1.cls i ci k ty) (hin0 : y.1.name = "<init>") (ha : h[a]? = some (.inr (ci, fs))) (hk1 : k < fs.length) (hv : ∀ b, narrow ty (mv b v) = mv b v ∧ fits ty (mv b v) = true) (hf1 : fs.set k v = fs1) (hn : pc + 3 = n) (kk : ∀ h1 : MH, Sm [a] h h1 → h1[a]? = some (.inr (ci, fs1)) → Go l y n L S h1 Q) : Go l y pc L (v :: .ref a :: S) h Q :=
  g_putF n d hF hin0 ha hk1 hv hf1 hn (Go.hnew ha (by subst hf1; simp [mcl]) kk)
theorem iZ_and255 (a : Int) : iZ a &&& iZ 255 = iZ (a % 256) := by
  have h := pk_and (iZ a) (m := iZ 255) 8 (by decide +kernel)
  rw [h]
  have e : (iZ a).toBitVec.toNat = (a % 4294967296).toNat := by
    show (BitVec.ofInt 32 a).toNat = _
    rw [BitVec.toNat_ofInt]
    rfl
  rw [e]
  show Int32.ofNat _ = _
  rw [iZ_nat']
  congr 1
  omega
theorem g_and255Z {a : Int} (c : Int) (n : Nat) (d : decode y.2.1 pc = .ok (.iand, 1)) (hc : a % 256 = c) (hn : pc + 1 = n) (k : Go l y n L (.int (iZ c) :: S) h Q) : Go l y pc L (.int (iZ 255) :: .int (iZ a) :: S) h Q := g_iandZ c n d (by rw [iZ_and255, hc]) hn k
theorem g_minT {i : Nat} {a b : Int} (n : Nat) (d : decode y.2.1 pc = .ok (.invokestatic i, 3)) (hw : Cond.methodLink y.1.cls i Lib.Math.min.name ∈ gw) (hw2 : Cond.static Lib.Math.min.name ∈ gw) (hw3 : Cond.initialized "java/lang/Math" ∈ gw) (hw4 : Cond.code Lib.Math.min.name Lib.Math.min.code 2 (some .int) ∈ gw) (h1 : 1 ≤ y.2.2.2.2.1) (h2 : (S.map fun v => v.category).sum + 13 ≤ y.2.2.2.2.2) (ha : rg a) (hb : rg b) (hn : pc + 3 = n) (k : Go l y n L (.int (iZ (min a b)) :: S) h Q) : Go l y pc L (.int (iZ b) :: .int (iZ a) :: S) h Q := g_minZ (min a b) n d hw hw2 hw3 hw4 h1 h2 (by
    by_cases q : b < a
    · rw [if_pos ((iZ_lt hb ha).mpr q), Int.min_eq_right (by omega)]
    · rw [if_neg (fun z => q ((iZ_lt hb ha).mp z)), Int.min_eq_left (by omega)]) hn k
theorem g_maxT {i : Nat} {a b : Int} (n : Nat) (d : decode y.2.1 pc = .ok (.invokestatic i, 3)) (hw : Cond.methodLink y.1.cls i Lib.Math.max.name ∈ gw) (hw2 : Cond.static Lib.Math.max.name ∈ gw) (hw3 : Cond.initialized "java/lang/Math" ∈ gw) (hw4 : Cond.code Lib.Math.max.name Lib.Math.max.code 2 (some .int) ∈ gw) (h1 : 1 ≤ y.2.2.2.2.1) (h2 : (S.map fun v => v.category).sum + 13 ≤ y.2.2.2.2.2) (ha : rg a) (hb : rg b) (hn : pc + 3 = n) (k : Go l y n L (.int (iZ (max a b)) :: S) h Q) : Go l y pc L (.int (iZ b) :: .int (iZ a) :: S) h Q := g_maxZ (max a b) n d hw hw2 hw3 hw4 h1 h2 (by
    by_cases q : a < b
    · rw [if_pos ((iZ_lt ha hb).mpr q), Int.max_eq_right (by omega)]
    · rw [if_neg (fun z => q ((iZ_lt ha hb).mp z)), Int.max_eq_left (by omega)]) hn k
end MR
