/-! the reference in the class's words (behind C7) -/
def DQ (tc : Nat) (V Bf Lf : Nat → Nat → Int) (xn : Nat → Int) (xf : Nat → Nat → Int) (tx : Nat → Int32) (w : Nat → Int) (B : Nat → Nat → Int) : Prop := RT tc V Bf Lf w B ∧ (∀ i : Nat, i < 8 → B 53 i = xn i) ∧ ∀ i : Nat, i < 8 → ∀ j : Nat, (j : Int) < xn i → (tx (200 * i + j)).toInt % 256 = xf i j
section DQL
variable {tc : Nat} {V Bf Lf : Nat → Nat → Int} {xn : Nat → Int} {xf : Nat → Nat → Int} {ty tx : Nat → Int32} {w w1 : Nat → Int} {B B1 : Nat → Nat → Int} {h : MH} {tr : Int64}
theorem DQ.of {tn en : Int} {tf : Nat → Int} (hT : RT tc V Bf Lf w B) (hq : Rel tn tf xn xf en ty tx w B) : DQ tc V Bf Lf xn xf tx w B := ⟨hT, hq.2.2.1, hq.2.2.2.2⟩
theorem DQ.ag (d : DQ tc V Bf Lf xn xf tx w B) (a : AgB w B w1 B1) (H : R9B h tr ty tx w B) : DQ tc V Bf Lf xn xf tx w1 B1 := by
  obtain ⟨d1, d2, d3⟩ := d
  refine ⟨d1.ag a ?_ H.o56, fun i hi => by rw [a.2.1.1]; exact d2 i hi, d3⟩
  have h1 := d1.1
  have h2 := H.2.2.1.2.1
  omega
theorem DQ.rel (ty : Nat → Int32) (d : DQ tc V Bf Lf xn xf tx w B) : Rel (w 2) (fun j => (ty j).toInt % 256) xn xf (w 35) ty tx w B := ⟨rfl, rfl, d.2.1, fun _ _ => rfl, d.2.2⟩
theorem DQ.x0 (d : DQ tc V Bf Lf xn xf tx w B) (H : R9B h tr ty tx w B) : ∀ j : Nat, j < 8 → 0 ≤ xn j := fun j hj => by
  rw [← d.2.1 j hj]
  exact (H.2.2.2.1.1 j).1
theorem DQ.v {t : Int} (d : DQ tc V Bf Lf xn xf tx w B) (h0 : 0 ≤ t) (h1 : t < w 5) : B 56 t.toNat = V 0 t.toNat ∧ B 57 t.toNat = V 1 t.toNat ∧ B 58 t.toNat = V 2 t.toNat ∧ B 59 t.toNat = V 3 t.toNat ∧ B 60 t.toNat = V 4 t.toNat := by
  have q := d.1.1
  exact (d.1.2 t.toNat (by omega)).1
theorem DQ.ul {t n : Int} {f : Nat → Int} (d : DQ tc V Bf Lf xn xf tx w B) (h0 : 0 ≤ t) (h1 : t < w 5) : ulk (B 56 t.toNat) (refB B t.toNat) n f = ulk (V 0 t.toNat) (Bf t.toNat) n f := by
  have q := d.1.1
  obtain ⟨⟨e0, -⟩, e5, -⟩ := d.1.2 t.toNat (by omega)
  have e0' : B 56 t.toNat = V 0 t.toNat := e0
  rw [e0']
  exact ulk_cg e5 (fun _ _ => rfl)
theorem DQ.run {t i : Int} (d : DQ tc V Bf Lf xn xf tx w B) (h0 : 0 ≤ t) (h1 : t < w 5) (hi : 0 ≤ i ∧ i ≤ 7) : run0 (B 53 i.toNat) (fun j => hb tx (200 * i + j)) (B 56 t.toNat) (refB B t.toNat) = run0 (xn i.toNat) (fun j => xf i.toNat j.toNat) (V 0 t.toNat) (Bf t.toNat) := by
  have q := d.1.1
  exact run_eq (d.rel tx) d.1 ⟨h0, by omega, hi⟩
/-- a run of any code on a text -/
theorem DQ.runs {i n : Int} {f : Nat → Int} (d : DQ tc V Bf Lf xn xf tx w B) (hi : 0 ≤ i ∧ i ≤ 7) : run0 (B 53 i.toNat) (fun j => hb tx (200 * i + j)) n f = run0 (xn i.toNat) (fun j => xf i.toNat j.toNat) n f := by
  obtain ⟨e, g⟩ := tx_eq (d.rel tx) hi
  unfold run0
  rw [e, mrun_tf g]
theorem rb_r {j : Nat} {R : Int × MS} {r n : Int} {f g : Nat → Int} (h2 : V 1 j = 2) (eR : R = run0 (xn (V 2 j).toNat) (fun q => xf (V 2 j).toNat q.toNat) (V 0 (V 3 j).toNat) (Bf (V 3 j).toNat)) (X : bldX R r n f g) : rbz xn (XF xf) V Bf j ↔ r = 0 ∧ ulk (V 0 j) (Bf j) n f = 0 := by
  have k : rbz xn (XF xf) V Bf j ↔ (@ite Int (bldOk R) (Classical.propDecidable _) 0 1 = 0 ∧ ulk (V 0 j) (Bf j) (msC R.2) (msO R.2) = 0) := by
    subst eR
    unfold rbz gtA
    rw [if_pos h2]
    exact Iff.rfl
  rw [k]
  rcases X with ⟨a, b, c, d, -⟩ | ⟨a, b⟩
  · rw [if_pos b, ← c]
    have u : ulk (V 0 j) (Bf j) n (msO R.2) = ulk (V 0 j) (Bf j) n f := ulk_cg (fun _ _ => rfl) (fun q hq => (d q hq).symm)
    rw [u]
    exact ⟨fun z => ⟨a, z.2⟩, fun z => ⟨rfl, z.2⟩⟩
  · rw [if_neg b]
    exact ⟨fun z => absurd z.1 (by decide), fun z => absurd z.1 a⟩
theorem or0 (x : Int) : iZ x ||| iZ 0 = iZ x := by
  have : iZ 0 = 0 := rfl
  rw [this, Int32.or_zero]
theorem lst_s {t c : Int} (h : ∃ n : Nat, (∀ m : Nat, m ≤ n → 0 ≤ itB (V 3) t m) ∧ itB (V 3) t n = c) (hc : 0 ≤ V 3 c.toNat) : ∃ n : Nat, (∀ m : Nat, m ≤ n → 0 ≤ itB (V 3) t m) ∧ itB (V 3) t n = V 3 c.toNat := by
  obtain ⟨n, h1, h2⟩ := h
  have e : itB (V 3) t (n + 1) = V 3 c.toNat := by
    show V 3 (itB (V 3) t n).toNat = V 3 c.toNat
    rw [h2]
  refine ⟨n + 1, fun m hm => ?_, e⟩
  by_cases z : m ≤ n
  · exact h1 m z
  · have : m = n + 1 := by omega
    subst this
    rw [e]
    exact hc
theorem lst_0 {t : Int} (h : 0 ≤ t) : ∃ n : Nat, (∀ m : Nat, m ≤ n → 0 ≤ itB (V 3) t m) ∧ itB (V 3) t n = t := by
  refine ⟨0, fun m hm => ?_, rfl⟩
  have e : m = 0 := by omega
  subst e
  exact h
theorem lst_e {t c : Int} (h : ∃ n : Nat, (∀ m : Nat, m ≤ n → 0 ≤ itB (V 3) t m) ∧ itB (V 3) t n = c) (hc : V 3 c.toNat = -9) : c = lastF (V 3) t := by
  obtain ⟨n, h1, h2⟩ := h
  refine lastF_eq ⟨(n : Int) + 1, ⟨by omega, fun m hm => h1 m (by omega), ?_⟩, ?_⟩
  · have e : ((n : Int) + 1).toNat = n + 1 := by omega
    rw [e]
    show V 3 (itB (V 3) t n).toNat = -9
    rw [h2]
    exact hc
  · have e : ((n : Int) + 1 - 1).toNat = n := by omega
    rw [e]
    exact h2.symm
theorem DQ.ch {t k r : Int} (d : DQ tc V Bf Lf xn xf tx w B) (H : R9B h tr ty tx w B) (c : chP (w 5) (refV B) t k r) : chP tc V t k r := by
  have q := d.1.1
  rw [q] at c
  refine ⟨fun z => ?_, c.2⟩
  obtain ⟨L, c1, c2, c3, c4⟩ := c.1 z
  have hg : ∀ j : Nat, (j : Int) < (tc : Int) → V 3 j = refV B 3 j := fun j hj => ((d.1.2 j (by omega)).1.2.2.2.1).symm
  have hb : ∀ j : Nat, (j : Int) < (tc : Int) → refV B 3 j = -9 ∨ (0 ≤ refV B 3 j ∧ refV B 3 j < (tc : Int)) := fun j hj => by
    have u := (H.2.2.2.2.2 (j : Int) (by omega) (by omega)).2.1
    have e : refV B 3 j = B 59 ((j : Int)).toNat := rfl
    rw [e]
    omega
  refine ⟨L, len_cg hg hb z c1, c2, fun y => ?_, c4⟩
  rw [c3 y]
  have e := itB_cg (g := refV B 3) (g' := V 3) (fun j hj => (hg j hj).symm) hb z k.toNat (fun i hi => c1.2.1 i (by omega))
  exact e.1
end DQL
theorem bit01 {S : Nat} {i : Int} (hS : S < 4096) (hi : 0 ≤ i ∧ i < 12) : ((iZ (S : Int) >>> (iZ i &&& 31)) &&& iZ 1).toInt = 0 ∨ ((iZ (S : Int) >>> (iZ i &&& 31)) &&& iZ 1).toInt = 1 := by
  have e := shB (k := i.toNat) (b := S) (by omega) hS
  rw [Int.toNat_of_nonneg hi.1] at e
  rw [e, iZ_toInt (by constructor <;> omega)]
  omega
theorem bs_y {P : Nat → Prop} {j b : Int} (hj : 0 ≤ j) (hb : b = (bset P j.toNat : Int)) (h : P j.toNat) : b + 2 ^ j.toNat = (bset P (j + 1).toNat : Int) := by
  have e : (j + 1).toNat = j.toNat + 1 := by omega
  rw [e, bset_y h, hb]
  norm_cast
theorem bs_n {P : Nat → Prop} {j b : Int} (hj : 0 ≤ j) (hb : b = (bset P j.toNat : Int)) (h : ¬ P j.toNat) : b = (bset P (j + 1).toNat : Int) := by
  have e : (j + 1).toNat = j.toNat + 1 := by omega
  rw [e, bset_n h, hb]
theorem bs_4 {P : Nat → Prop} {j b : Int} (hj : j ≤ 12) (hb : b = (bset P j.toNat : Int)) : 0 ≤ b ∧ b < 4096 := by
  have a := bset_lt (P := P) j.toNat
  have c : 2 ^ j.toNat ≤ 2 ^ 12 := Nat.pow_le_pow_right (by decide) (by omega)
  omega
/-- a bit of a set, as it is read -/
theorem bs_b {P : Nat → Prop} {n : Nat} {i b : Int} (hn : n ≤ 12) (hi : 0 ≤ i ∧ i < n) (hb : b = (bset P n : Int)) : ((P i.toNat ∧ (iZ b >>> (iZ i &&& 31)) &&& iZ 1 = iZ 1) ∨ (¬ P i.toNat ∧ (iZ b >>> (iZ i &&& 31)) &&& iZ 1 = iZ 0)) := by
  have a := bset_lt (P := P) n
  have c : 2 ^ n ≤ 2 ^ 12 := Nat.pow_le_pow_right (by decide) hn
  have e := shB (k := i.toNat) (b := bset P n) (by omega) (by omega)
  rw [Int.toNat_of_nonneg hi.1] at e
  rw [hb, e]
  have k := bset_bit (P := P) n i.toNat (by omega)
  by_cases z : P i.toNat
  · rw [k.mpr z]
    exact Or.inl ⟨z, rfl⟩
  · have y : bset P n / 2 ^ i.toNat % 2 = 0 := by
      rcases Nat.mod_two_eq_zero_or_one (bset P n / 2 ^ i.toNat) with y | y
      · exact y
      · exact absurd (k.mp y) z
    rw [y]
    exact Or.inr ⟨z, rfl⟩
theorem cnt_b {P : Nat → Prop} {j b y : Int} (hj : 0 ≤ j) (hb : b = cntP P j.toNat) (h : (P j.toNat ∧ y = 1) ∨ (¬ P j.toNat ∧ y = 0)) : b + y = cntP P (j + 1).toNat := by
  rcases h with ⟨h1, h2⟩ | ⟨h1, h2⟩
  · subst h2
    exact cnt_y hj hb h1
  · subst h2
    rw [Int.add_zero]
    exact cnt_n hj hb h1
theorem or0r (x : Int32) : x ||| iZ 0 = x := by
  have : iZ 0 = 0 := rfl
  rw [this, Int32.or_zero]
theorem pw_pos (n : Nat) : (1 : Int) ≤ 2 ^ n := by exact_mod_cast Nat.one_le_two_pow
section SER
variable {tn n n1 u r : Int} {X : Int → Int} {f f1 g1 : Nat → Int} {k : Nat} {R : Int × MS}
theorem se_rn (eR : R = run0 tn X n f) (B : bldX R r n1 f1 g1) (h : r ≠ 0) : seF tn X (k + 1) u n f = -9 := by
  subst eR
  rcases B with ⟨a, -⟩ | ⟨-, b⟩
  · exact absurd a h
  · exact se_no b
theorem se_rd (eR : R = run0 tn X n f) (B : bldX R r n1 f1 g1) (h : r = 0) (n0 : Int) (f0 : Nat → Int) : bldOk (run0 tn X n f) ∧ msC (run0 tn X n f).2 = n1 ∧ agr n1 (msO (run0 tn X n f).2) f1 ∧ ulk n0 f0 (msC (run0 tn X n f).2) (msO (run0 tn X n f).2) = ulk n0 f0 n1 f1 := by
  subst eR
  rcases B with ⟨-, b, c, d, -⟩ | ⟨a, -⟩
  · refine ⟨b, c.symm, fun j hj => (d j hj).symm, ?_⟩
    rw [← c]
    exact ulk_cg (fun _ _ => rfl) (fun j hj => (d j hj).symm)
  · exact absurd h a
theorem se_re (eR : R = run0 tn X n f) (B : bldX R r n1 f1 g1) (h : r = 0) (hu : ulk n f n1 f1 = 0) : seF tn X (k + 1) u n f = u := by
  obtain ⟨ok, -, -, e⟩ := se_rd eR B h n f
  rw [seF, if_pos ok, e, if_pos hu]
theorem se_rg (eR : R = run0 tn X n f) (B : bldX R r n1 f1 g1) (h : r = 0) (hu : ulk n f n1 f1 ≠ 0) : seF tn X (k + 1) u n f = seF tn X k (u + 1) n1 f1 := by
  obtain ⟨ok, c, d, e⟩ := se_rd eR B h n f
  rw [seF, if_pos ok, e, if_neg hu, c]
  exact se_cg d
end SER
theorem ulk_fr {B B1 : Nat → Nat → Int} {sl : Nat} {to n : Int} {f : Nat → Int} (fr : (∀ q : Nat, ((q : Int) < 256 * to ∨ 256 * to + 256 ≤ q) → B1 54 q = B 54 q ∧ B1 55 q = B 55 q) ∧ ∀ t : Nat, t ≠ to.toNat → B1 56 t = B 56 t) (h0 : 0 ≤ to) (h : (sl : Int) ≠ to) (ho : oki 0 256 (B 56)) : ulk (B1 56 sl) (refB B1 sl) n f = ulk (B 56 sl) (refB B sl) n f := by
  rw [fr.2 sl (by omega)]
  refine ulk_cg (fun j hj => ?_) (fun _ _ => rfl)
  have hb := ho sl
  exact (fr.1 (256 * sl + j) (by omega)).1
theorem bld_no {tn n n1 r : Int} {X : Int → Int} {f f1 g1 : Nat → Int} {R : Int × MS} (eR : R = run0 tn X n f) (B : bldX R r n1 f1 g1) (h : r ≠ 0) : ¬ bldOk (run0 tn X n f) := by
  subst eR
  rcases B with ⟨a, -⟩ | ⟨-, b⟩
  · exact absurd a h
  · exact b
theorem sl_fr {B B1 : Nat → Nat → Int} {sl : Nat} {to : Int} (fr : (∀ q : Nat, ((q : Int) < 256 * to ∨ 256 * to + 256 ≤ q) → B1 54 q = B 54 q ∧ B1 55 q = B 55 q) ∧ ∀ t : Nat, t ≠ to.toNat → B1 56 t = B 56 t) (h0 : 0 ≤ to) (h : (sl : Int) ≠ to) (ho : oki 0 256 (B 56)) : B1 56 sl = B 56 sl ∧ agr (B 56 sl) (refB B1 sl) (refB B sl) := by
  refine ⟨fr.2 sl (by omega), fun j hj => ?_⟩
  have hb := ho sl
  exact (fr.1 (256 * sl + j) (by omega)).1
