/-! chains, stale and sealed ones: words of both sides (behind D2.join) -/
def XF (xf : Nat → Nat → Int) : Nat → Int → Int := fun i j => xf i j.toNat
/-- bit i of x -/
def hbR (x : Int32) (i : Int) : Prop := ((x >>> (iZ i &&& 31)) &&& iZ 1).toInt = 1
theorem hbR_S {S : Nat} {i : Int} (hS : S < 4096) (hi : 0 ≤ i ∧ i < 12) : hbR (iZ (S : Int)) i ↔ S / 2 ^ i.toNat % 2 = 1 := by
  unfold hbR
  have e := shB (k := i.toNat) (b := S) (by omega) hS
  rw [Int.toNat_of_nonneg hi.1] at e
  rw [e, iZ_toInt (by constructor <;> omega)]
  omega
theorem orI {b j : Int} {S : Nat} (hb : b = (S : Int)) (hj : 0 ≤ j ∧ j < 12) (hS : S < 2 ^ j.toNat) : iZ b ||| iZ (2 ^ j.toNat) = iZ (b + 2 ^ j.toNat) := by
  subst hb
  have e := orB (i := j.toNat) (b := S) (by omega) hS
  have c : ((2 ^ j.toNat : Nat) : Int) = 2 ^ j.toNat := by norm_cast
  have c2 : ((S + 2 ^ j.toNat : Nat) : Int) = (S : Int) + 2 ^ j.toNat := by rw [Int.natCast_add, c]
  rw [c, c2] at e
  exact e
/-! chains -/
/-- a chain's last -/
def isLast (g : Nat → Int) (t e : Int) : Prop := ∃ L : Int, isLen g t L ∧ e = itB g t (L - 1).toNat
theorem isLast_un {g : Nat → Int} {t e e' : Int} (h : isLast g t e) (h' : isLast g t e') : e = e' := by
  obtain ⟨L, a, b⟩ := h
  obtain ⟨L', a', b'⟩ := h'
  have := isLen_un a a'
  subst this
  exact b.trans b'.symm
noncomputable def lastF (g : Nat → Int) (t : Int) : Int := Classical.epsilon (fun e => isLast g t e)
theorem lastF_eq {g : Nat → Int} {t e : Int} (h : isLast g t e) : e = lastF g t := isLast_un h (Classical.epsilon_spec (p := fun e => isLast g t e) ⟨e, h⟩)
/-- chain -/
def chP (tc : Int) (V : Nat → Nat → Int) (t k r : Int) : Prop := (0 ≤ t ∧ t < tc → ∃ L : Int, isLen (V 3) t L ∧ (k = -1 → r = L) ∧ (0 ≤ k ∧ k < L → r = itB (V 3) t k.toNat) ∧ (k < -1 ∨ L ≤ k → r = -1)) ∧ (¬ (0 ≤ t ∧ t < tc) → r = -1)
theorem ch_join {tc t k r r' : Int} {V : Nat → Nat → Int} (a : chP tc V t k r) (b : chP tc V t k r') : r = r' := by
  by_cases z : 0 ≤ t ∧ t < tc
  · obtain ⟨L, a1, a2, a3, a4⟩ := a.1 z
    obtain ⟨L', b1, b2, b3, b4⟩ := b.1 z
    have := isLen_un a1 b1
    subst this
    by_cases y : k = -1
    · rw [a2 y, b2 y]
    · by_cases y2 : 0 ≤ k ∧ k < L
      · rw [a3 y2, b3 y2]
      · rw [a4 (by omega), b4 (by omega)]
  · rw [a.2 z, b.2 z]
/-! made again -/
section RBZ
variable {xn : Nat → Int} {xf V C : Nat → Nat → Int} {j : Nat}
theorem rb_b {hm a x p e d t c : Int} {m ou ol : Nat → Int} (h2 : V 1 j = 2) (h : rnR (run0 (xn (V 2 j).toNat) (fun q => xf (V 2 j).toNat q.toNat) (V 0 (V 3 j).toNat) (C (V 3 j).toNat)) hm a x p e d t c m ou ol) : rbz xn (XF xf) V C j ↔ (hm = 0 ∧ 0 < c) ∧ ulk (V 0 j) (C j) c ou = 0 := by
  have ok := rnR_ok h
  obtain ⟨-, -, -, -, -, -, -, h7, -, h9, -⟩ := h
  unfold rbz gtA
  rw [if_pos h2]
  show (@ite Int (bldOk (run0 (xn (V 2 j).toNat) (fun q => xf (V 2 j).toNat q.toNat) (V 0 (V 3 j).toNat) (C (V 3 j).toNat))) (Classical.propDecidable _) 0 1 = 0 ∧ ulk (V 0 j) (C j) (msC (run0 (xn (V 2 j).toNat) (fun q => xf (V 2 j).toNat q.toNat) (V 0 (V 3 j).toNat) (C (V 3 j).toNat)).2) (msO (run0 (xn (V 2 j).toNat) (fun q => xf (V 2 j).toNat q.toNat) (V 0 (V 3 j).toNat) (C (V 3 j).toNat)).2) = 0) ↔ _
  generalize run0 (xn (V 2 j).toNat) (fun q => xf (V 2 j).toNat q.toNat) (V 0 (V 3 j).toNat) (C (V 3 j).toNat) = R at ok h7 h9 ⊢
  have hc : msC R.2 = c := h7
  have hu : ulk (V 0 j) (C j) (msC R.2) (msO R.2) = ulk (V 0 j) (C j) c ou := by
    rw [hc]
    exact ulk_cg (fun _ _ => rfl) (fun q hq => h9 q hq)
  rw [hu]
  by_cases q : bldOk R
  · rw [if_pos q]
    exact ⟨fun z => ⟨ok.mp q, z.2⟩, fun z => ⟨rfl, z.2⟩⟩
  · rw [if_neg q]
    exact ⟨fun z => absurd z.1 (by decide), fun z => absurd (ok.mpr z.1) q⟩
theorem rb_m {R : PR} {r0 n : Int} {f g : Nat → Int} (h2 : V 1 j ≠ 2) (eR : R = if V 1 j = 0 then prsE (xn (V 2 j).toNat) (fun q => xf (V 2 j).toNat q.toNat) else namE (xn (V 2 j).toNat) (fun q => xf (V 2 j).toNat q.toNat)) (e : nrR R r0 n f g) : rbz xn (XF xf) V C j ↔ r0 = -9 ∧ ulk (V 0 j) (C j) n f = 0 := by
  have k : rbz xn (XF xf) V C j ↔ ((if R.1 = -9 then (0 : Int) else 1) = 0 ∧ ulk (V 0 j) (C j) R.2.1 R.2.2.1 = 0) := by
    unfold rbz gtA
    rw [if_neg h2, eR]
    by_cases z : V 1 j = 0
    · rw [if_pos z, if_pos z]
      exact Iff.rfl
    · rw [if_neg z, if_neg z]
      exact Iff.rfl
  rw [k]
  obtain ⟨e1, e2⟩ := e
  rw [e1]
  by_cases z : r0 = -9
  · obtain ⟨f1, f2, -⟩ := e2 z
    rw [if_pos z, f1, ulk_cg (g1 := C j) (g2 := f) (fun _ _ => rfl) (fun q hq => (f2 q hq).symm)]
    exact ⟨fun y => ⟨z, y.2⟩, fun y => ⟨rfl, y.2⟩⟩
  · rw [if_neg z]
    exact ⟨fun y => absurd y.1 (by decide), fun y => absurd y.1 z⟩
end RBZ
theorem rbN {P A : Prop} {r u : Int} (E : P ↔ A ∧ u = 0) (hn : ¬ A) (hr : r ≠ 0) : r = 0 ↔ P := ⟨fun z => absurd z hr, fun z => absurd (E.mp z).1 hn⟩
theorem rbY {P A : Prop} {r u : Int} (E : P ↔ A ∧ u = 0) (ha : A) (hr : r = u) : r = 0 ↔ P := by
  subst hr
  exact ⟨fun z => E.mpr ⟨ha, z⟩, fun z => (E.mp z).2⟩
/-! stale ones -/
section STT
variable (xn : Nat → Int) (X : Nat → Int → Int) (V C : Nat → Nat → Int)
noncomputable def stT : Nat → Nat
  | 0 => 0
  | n + 1 => @ite Nat ((V 3 n ≠ -9 ∧ stT n / 2 ^ (V 3 n).toNat % 2 = 1) ∨ ¬ rbz xn X V C n) (Classical.propDecidable _) (stT n + 2 ^ n) (stT n)
end STT
section STL
variable {xn : Nat → Int} {X : Nat → Int → Int} {V C : Nat → Nat → Int}
theorem stT_y {n : Nat} (h : (V 3 n ≠ -9 ∧ stT xn X V C n / 2 ^ (V 3 n).toNat % 2 = 1) ∨ ¬ rbz xn X V C n) : stT xn X V C (n + 1) = stT xn X V C n + 2 ^ n := by
  rw [stT]
  exact if_pos h
theorem stT_n {n : Nat} (h : ¬ ((V 3 n ≠ -9 ∧ stT xn X V C n / 2 ^ (V 3 n).toNat % 2 = 1) ∨ ¬ rbz xn X V C n)) : stT xn X V C (n + 1) = stT xn X V C n := by
  rw [stT]
  exact if_neg h
theorem stT_lt (n : Nat) : stT xn X V C n < 2 ^ n := by
  induction n with
  | zero => simp [stT]
  | succ n ih =>
    have e : 2 ^ (n + 1) = 2 ^ n * 2 := Nat.pow_succ 2 n
    by_cases h : (V 3 n ≠ -9 ∧ stT xn X V C n / 2 ^ (V 3 n).toNat % 2 = 1) ∨ ¬ rbz xn X V C n
    · rw [stT_y h]; omega
    · rw [stT_n h]; omega
theorem stT_4 {n : Nat} (h : n ≤ 12) : stT xn X V C n < 4096 := by
  have a := stT_lt (xn := xn) (X := X) (V := V) (C := C) n
  have b : 2 ^ n ≤ 2 ^ 12 := Nat.pow_le_pow_right (by decide) h
  omega
theorem st_c {j b : Int} (hj : 0 ≤ j ∧ j < 12) (hv : V 3 j.toNat = -9 ∨ (0 ≤ V 3 j.toNat ∧ V 3 j.toNat < j)) (hb : b = (stT xn X V C j.toNat : Int)) : (V 3 j.toNat ≠ -9 ∧ hbR (iZ b) (V 3 j.toNat)) ↔ (V 3 j.toNat ≠ -9 ∧ stT xn X V C j.toNat / 2 ^ (V 3 j.toNat).toNat % 2 = 1) := by
  subst hb
  have h4 := stT_4 (xn := xn) (X := X) (V := V) (C := C) (n := j.toNat) (by omega)
  constructor
  · intro z
    exact ⟨z.1, (hbR_S h4 (by omega)).mp z.2⟩
  · intro z
    exact ⟨z.1, (hbR_S h4 (by omega)).mpr z.2⟩
theorem stT_iy {j b : Int} (hj : 0 ≤ j ∧ j < 12) (hv : V 3 j.toNat = -9 ∨ (0 ≤ V 3 j.toNat ∧ V 3 j.toNat < j)) (hb : b = (stT xn X V C j.toNat : Int)) (h : (V 3 j.toNat ≠ -9 ∧ hbR (iZ b) (V 3 j.toNat)) ∨ ¬ rbz xn X V C j.toNat) : b + 2 ^ j.toNat = (stT xn X V C (j + 1).toNat : Int) := by
  rw [st_c hj hv hb] at h
  have e : (j + 1).toNat = j.toNat + 1 := by omega
  rw [e, stT_y h, hb]
  norm_cast
theorem stT_in {j b : Int} (hj : 0 ≤ j ∧ j < 12) (hv : V 3 j.toNat = -9 ∨ (0 ≤ V 3 j.toNat ∧ V 3 j.toNat < j)) (hb : b = (stT xn X V C j.toNat : Int)) (h1 : ¬ (V 3 j.toNat ≠ -9 ∧ hbR (iZ b) (V 3 j.toNat))) (h2 : rbz xn X V C j.toNat) : b = (stT xn X V C (j + 1).toNat : Int) := by
  rw [st_c hj hv hb] at h1
  have e : (j + 1).toNat = j.toNat + 1 := by omega
  rw [e, stT_n (fun z => z.elim h1 (fun y => y h2)), hb]
theorem stT_i4 {j b : Int} (hj : j ≤ 12) (hb : b = (stT xn X V C j.toNat : Int)) : 0 ≤ b ∧ b < 4096 := by
  have h4 := stT_4 (xn := xn) (X := X) (V := V) (C := C) (n := j.toNat) (by omega)
  omega
end STL
/-! sealed ones, counts, least -/
def slQ (V : Nat → Nat → Int) (S : Nat) (t : Nat) : Prop := V 4 (lastF (V 3) t).toNat = 1 ∧ ¬ hbR (iZ (S : Int)) t
def sdP (tc : Int) (V : Nat → Nat → Int) (S : Nat) (t r : Int) : Prop := (0 ≤ t ∧ t < tc → (slQ V S t.toNat ∧ r = 1) ∨ (¬ slQ V S t.toNat ∧ r = 0)) ∧ (¬ (0 ≤ t ∧ t < tc) → r = -1)
theorem sd_join {tc t r r' : Int} {V : Nat → Nat → Int} {S : Nat} (a : sdP tc V S t r) (b : sdP tc V S t r') : r = r' := by
  by_cases z : 0 ≤ t ∧ t < tc
  · rcases a.1 z with ⟨a1, a2⟩ | ⟨a1, a2⟩ <;> rcases b.1 z with ⟨b1, b2⟩ | ⟨b1, b2⟩
    · omega
    · exact absurd a1 b1
    · exact absurd b1 a1
    · omega
  · rw [a.2 z, b.2 z]
noncomputable def cntP (P : Nat → Prop) : Nat → Int
  | 0 => 0
  | n + 1 => cntP P n + @ite Int (P n) (Classical.propDecidable _) 1 0
theorem cnt_y {P : Nat → Prop} {j b : Int} (hj : 0 ≤ j) (hb : b = cntP P j.toNat) (h : P j.toNat) : b + 1 = cntP P (j + 1).toNat := by
  have e : (j + 1).toNat = j.toNat + 1 := by omega
  rw [e, cntP, if_pos h, hb]
theorem cnt_n {P : Nat → Prop} {j b : Int} (hj : 0 ≤ j) (hb : b = cntP P j.toNat) (h : ¬ P j.toNat) : b = cntP P (j + 1).toNat := by
  have e : (j + 1).toNat = j.toNat + 1 := by omega
  rw [e, cntP, if_neg h, hb, Int.add_zero]
def sm4 (V : Nat → Nat → Int) : Nat → Int
  | 0 => 0
  | n + 1 => sm4 V n + V 4 n
theorem sm4_s {V : Nat → Nat → Int} {j b x : Int} (hj : 0 ≤ j) (hb : b = sm4 V j.toNat) (h : x = V 4 j.toNat) : b + x = sm4 V (j + 1).toNat := by
  have e : (j + 1).toNat = j.toNat + 1 := by omega
  rw [e, sm4, hb, h]
/-- count -/
def coP (tc tn en : Int) (V : Nat → Nat → Int) (S n : Nat) (x r : Int) : Prop := (x = 0 → r = tc) ∧ (x = 1 → r = en) ∧ (x = 2 → r = tn) ∧ (x = 3 → r = sm4 V n) ∧ (x = 4 → r = cntP (slQ V S) n) ∧ (¬ (0 ≤ x ∧ x ≤ 4) → r = -1)
theorem co_join {tc tn en x r r' : Int} {V : Nat → Nat → Int} {S n : Nat} (a : coP tc tn en V S n x r) (b : coP tc tn en V S n x r') : r = r' := by
  obtain ⟨c0, c1, c2, c3, c4, c5⟩ := a
  obtain ⟨d0, d1, d2, d3, d4, d5⟩ := b
  by_cases x0 : x = 0
  · rw [c0 x0, d0 x0]
  by_cases x1 : x = 1
  · rw [c1 x1, d1 x1]
  by_cases x2 : x = 2
  · rw [c2 x2, d2 x2]
  by_cases x3 : x = 3
  · rw [c3 x3, d3 x3]
  by_cases x4 : x = 4
  · rw [c4 x4, d4 x4]
  have n : ¬ (0 ≤ x ∧ x ≤ 4) := by
    clear c0 c1 c2 c3 c4 c5 d0 d1 d2 d3 d4 d5
    omega
  rw [c5 n, d5 n]
/-- least: F the set that is asked for without the stale ones -/
noncomputable def lsF (V : Nat → Nat → Int) (F : Int32) : Nat → Int32
  | 0 => iZ 0
  | n + 1 => @ite Int32 (hbR F n ∧ V 1 (lastF (V 3) n).toNat = 0 ∧ V 4 (lastF (V 3) n).toNat = 0) (Classical.propDecidable _) (lsF V F n ||| (iZ 1 <<< (iZ (lastF (V 3) n) &&& 31))) (lsF V F n)
theorem lsF_y {V : Nat → Nat → Int} {F b : Int32} {j e : Int} (hj : 0 ≤ j) (hb : b = lsF V F j.toNat) (he : e = lastF (V 3) j) (h : hbR F j) (h1 : V 1 e.toNat = 0) (h2 : V 4 e.toNat = 0) : b ||| (iZ 1 <<< (iZ e &&& 31)) = lsF V F (j + 1).toNat := by
  have e1 : (j + 1).toNat = j.toNat + 1 := by omega
  have e2 : ((j.toNat : Nat) : Int) = j := by omega
  rw [e1, lsF, e2, ← he, if_pos ⟨h, h1, h2⟩, hb]
theorem lsF_n {V : Nat → Nat → Int} {F b : Int32} {j : Int} (hj : 0 ≤ j) (hb : b = lsF V F j.toNat) (h : ¬ (hbR F j ∧ V 1 (lastF (V 3) j).toNat = 0 ∧ V 4 (lastF (V 3) j).toNat = 0)) : b = lsF V F (j + 1).toNat := by
  have e1 : (j + 1).toNat = j.toNat + 1 := by omega
  have e2 : ((j.toNat : Nat) : Int) = j := by omega
  rw [e1, lsF, e2, if_neg h, hb]
/-- least -/
def lsP (tc : Nat) (V : Nat → Nat → Int) (S : Nat) (z : Int) (r : Int32) : Prop := (0 ≤ z ∧ z < 2 ^ tc → r = lsF V (iZ z &&& (iZ (S : Int) ^^^ iZ (-1))) tc) ∧ (¬ (0 ≤ z ∧ z < 2 ^ tc) → r = iZ (-1))
theorem ls_join {tc : Nat} {V : Nat → Nat → Int} {S : Nat} {z : Int} {r r' : Int32} (a : lsP tc V S z r) (b : lsP tc V S z r') : r = r' := by
  by_cases q : 0 ≤ z ∧ z < 2 ^ tc
  · rw [a.1 q, b.1 q]
  · rw [a.2 q, b.2 q]
