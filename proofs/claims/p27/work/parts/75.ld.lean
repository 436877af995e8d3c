noncomputable def fst1 (P : Nat → Prop) : Nat → Int
  | 0 => -9
  | n + 1 => @ite Int (fst1 P n = -9 ∧ P n) (Classical.propDecidable _) n (fst1 P n)
section FST
variable {P : Nat → Prop}
theorem fst1_pos {n : Nat} (h : fst1 P n = -9) (hp : P n) : fst1 P (n + 1) = n := by
  rw [fst1]
  exact if_pos ⟨h, hp⟩
theorem fst1_neg {n : Nat} (h : ¬ (fst1 P n = -9 ∧ P n)) : fst1 P (n + 1) = fst1 P n := by
  rw [fst1]
  exact if_neg h
theorem fst1_rg (n : Nat) : (fst1 P n = -9 ∧ ∀ j : Nat, j < n → ¬ P j) ∨ (0 ≤ fst1 P n ∧ fst1 P n < n ∧ P (fst1 P n).toNat ∧ ∀ j : Nat, (j : Int) < fst1 P n → ¬ P j) := by
  induction n with
  | zero => left; exact ⟨rfl, fun j hj => by omega⟩
  | succ n ih =>
    by_cases h : fst1 P n = -9 ∧ P n
    · right
      rw [fst1_pos h.1 h.2]
      refine ⟨by omega, by omega, by simpa using h.2, fun j hj => ?_⟩
      rcases ih with q | q
      · exact q.2 j (by omega)
      · omega
    · rw [fst1_neg h]
      rcases ih with q | q
      · left
        refine ⟨q.1, fun j hj z => ?_⟩
        by_cases e : j = n
        · subst e
          exact h ⟨q.1, z⟩
        · exact q.2 j (by omega) z
      · right
        exact ⟨q.1, by omega, q.2.2⟩
theorem fst1_ex {n : Nat} {j : Nat} (hj : j < n) (hp : P j) : 0 ≤ fst1 P n ∧ fst1 P n < n ∧ P (fst1 P n).toNat := by
  rcases fst1_rg (P := P) n with q | q
  · exact absurd hp (q.2 j hj)
  · exact ⟨q.1, q.2.1, q.2.2.1⟩
/-- what the first is, of one that looks at places one by one -/
theorem fst1_eq {n : Nat} {r : Int} (h0 : 0 ≤ r) (h1 : r < n) (hp : P r.toNat) (hf : ∀ j : Nat, (j : Int) < r → ¬ P j) : fst1 P n = r := by
  rcases fst1_rg (P := P) n with q | q
  · exact absurd hp (q.2 r.toNat (by omega))
  · by_cases a : fst1 P n < r
    · exact absurd q.2.2.1 (hf _ (by omega))
    · by_cases b : r < fst1 P n
      · exact absurd hp (q.2.2.2 r.toNat (by omega))
      · omega
theorem fst1_cg {P' : Nat → Prop} {n : Nat} (h : ∀ j : Nat, j < n → (P j ↔ P' j)) : fst1 P n = fst1 P' n := by
  induction n with
  | zero => rfl
  | succ n ih =>
    have i := ih (fun j hj => h j (by omega))
    by_cases q : fst1 P n = -9 ∧ P n
    · rw [fst1_pos q.1 q.2, fst1_pos (by rw [← i]; exact q.1) ((h n (by omega)).mp q.2)]
    · rw [fst1_neg q, fst1_neg (fun z => q ⟨by rw [i]; exact z.1, (h n (by omega)).mpr z.2⟩), i]
end FST
noncomputable def lds (en : Nat) (f : Nat → Int) (U K : Nat → Int32) (a : Int) : Nat → Int
  | 0 => a
  | s + 1 => fst1 (fun o => f o = f (lds en f U K a s).toNat - 1 ∧ cn (U o) (K (lds en f U K a s).toNat)) en
/-- builds left from each, of the whole search -/
noncomputable def lvE (en : Int) (us kn : Nat → Int) (a b wd : Int) : Nat → Int := lv en.toNat (fun o => iZ (us o)) (Kf kn a wd) b.toNat (en.toNat - 1)
noncomputable def ldF (en : Int) (us kn : Nat → Int) (a b k : Int) : Int := if lvE en us kn a b 0 a.toNat = -9 ∨ k < 0 then lvE en us kn a b 0 a.toNat else if lvE en us kn a b 0 a.toNat < k then -9 else lds en.toNat (lvE en us kn a b 0) (fun o => iZ (us o)) (fun o => iZ (kn o)) a k.toNat
theorem Kf_0 (g : Nat → Int) (a : Int) (e : Nat) : Kf g a 0 e = iZ (g e) := by
  unfold Kf
  have : (if (e : Int) = a then (0 : Int) else 0) = 0 := by split <;> rfl
  rw [this, ← iZ_0]
  exact Int32.or_zero
theorem lvE_rg (en : Int) (us kn : Nat → Int) (a b wd : Int) (e : Nat) : lvE en us kn a b wd e = -9 ∨ (0 ≤ lvE en us kn a b wd e ∧ lvE en us kn a b wd e ≤ (en.toNat - 1 : Nat)) := lv_rg _ _
/-- the next step of a ladder is there -/
theorem lvE_dn {en : Int} {us kn : Nat → Int} {a b : Int} {e : Nat} (h : 0 < lvE en us kn a b 0 e) : ∃ o : Nat, o < en.toNat ∧ lvE en us kn a b 0 o = lvE en us kn a b 0 e - 1 ∧ cn (iZ (us o)) (iZ (kn e)) := by
  obtain ⟨o, h1, h2, h3⟩ := lv_dn _ e h
  rw [Kf_0] at h3
  exact ⟨o, h1, h2, h3⟩
/-- all steps of a ladder are there -/
theorem lds_ok {en : Int} {us kn : Nat → Int} {a b : Int} (hen : 0 ≤ en) (ha : 0 ≤ a ∧ a < en) (s : Nat) (hs : (s : Int) ≤ lvE en us kn a b 0 a.toNat) : 0 ≤ lds en.toNat (lvE en us kn a b 0) (fun o => iZ (us o)) (fun o => iZ (kn o)) a s ∧ lds en.toNat (lvE en us kn a b 0) (fun o => iZ (us o)) (fun o => iZ (kn o)) a s < en ∧ lvE en us kn a b 0 (lds en.toNat (lvE en us kn a b 0) (fun o => iZ (us o)) (fun o => iZ (kn o)) a s).toNat = lvE en us kn a b 0 a.toNat - s := by
  induction s with
  | zero => exact ⟨ha.1, ha.2, by simp [lds]⟩
  | succ s ih =>
    obtain ⟨i1, i2, i3⟩ := ih (by omega)
    obtain ⟨o, h1, h2, h3⟩ := lvE_dn (en := en) (us := us) (kn := kn) (a := a) (b := b) (e := (lds en.toNat (lvE en us kn a b 0) (fun o => iZ (us o)) (fun o => iZ (kn o)) a s).toNat) (by omega)
    have q := fst1_ex (P := fun o => lvE en us kn a b 0 o = lvE en us kn a b 0 (lds en.toNat (lvE en us kn a b 0) (fun o => iZ (us o)) (fun o => iZ (kn o)) a s).toNat - 1 ∧ cn (iZ (us o)) (iZ (kn (lds en.toNat (lvE en us kn a b 0) (fun o => iZ (us o)) (fun o => iZ (kn o)) a s).toNat))) h1 ⟨h2, h3⟩
    rw [lds]
    refine ⟨q.1, by omega, ?_⟩
    rw [q.2.2.1, i3]
    omega
/-- needed: the word, and the builds with it, behind w words -/
noncomputable def nds (F : Int → Int) : Nat → Int × Int
  | 0 => (-9, F 0)
  | n + 1 => @ite (Int × Int) (F (2 ^ n) ≠ -9 ∧ ((nds F n).2 = -9 ∨ F (2 ^ n) < (nds F n).2)) (Classical.propDecidable _) ((n : Int), F (2 ^ n)) (nds F n)
theorem nds_pos {F : Int → Int} {n : Nat} (h : F (2 ^ n) ≠ -9 ∧ ((nds F n).2 = -9 ∨ F (2 ^ n) < (nds F n).2)) : nds F (n + 1) = ((n : Int), F (2 ^ n)) := by
  rw [nds]
  exact if_pos h
theorem nds_neg {F : Int → Int} {n : Nat} (h : ¬ (F (2 ^ n) ≠ -9 ∧ ((nds F n).2 = -9 ∨ F (2 ^ n) < (nds F n).2))) : nds F (n + 1) = nds F n := by
  rw [nds]
  exact if_neg h
noncomputable def ndF (en : Int) (us kn : Nat → Int) (a b x : Int) : Int := if (nds (fun wd => lvE en us kn a b wd a.toNat) 16).1 = -9 ∨ x = 0 then (nds (fun wd => lvE en us kn a b wd a.toNat) 16).1 else (nds (fun wd => lvE en us kn a b wd a.toNat) 16).2
theorem shl16 (n : Nat) (h : n < 16) : iZ 1 <<< (iZ (n : Int) &&& 31) = iZ (2 ^ n) := by
  have : n = 0 ∨ n = 1 ∨ n = 2 ∨ n = 3 ∨ n = 4 ∨ n = 5 ∨ n = 6 ∨ n = 7 ∨ n = 8 ∨ n = 9 ∨ n = 10 ∨ n = 11 ∨ n = 12 ∨ n = 13 ∨ n = 14 ∨ n = 15 := by omega
  rcases this with rfl | rfl | rfl | rfl | rfl | rfl | rfl | rfl | rfl | rfl | rfl | rfl | rfl | rfl | rfl | rfl <;> decide +kernel
theorem pow16 (n : Nat) (h : n < 16) : rg (2 ^ n) := by
  have : n = 0 ∨ n = 1 ∨ n = 2 ∨ n = 3 ∨ n = 4 ∨ n = 5 ∨ n = 6 ∨ n = 7 ∨ n = 8 ∨ n = 9 ∨ n = 10 ∨ n = 11 ∨ n = 12 ∨ n = 13 ∨ n = 14 ∨ n = 15 := by omega
  rcases this with rfl | rfl | rfl | rfl | rfl | rfl | rfl | rfl | rfl | rfl | rfl | rfl | rfl | rfl | rfl | rfl <;> decide
