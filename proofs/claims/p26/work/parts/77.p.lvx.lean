/-! editions: what the class's search finds is what the reference's finds -/
theorem fsE_at {P : Nat → Prop} {j n : Int} (h0 : 0 ≤ j) (h1 : j < n) (hX : fst1 P j.toNat = -9) (hp : P j.toNat) : fst1 P n.toNat = j := by
  refine fst1_eq (by omega) (by omega) hp (fun i hi z => ?_)
  rcases fst1_rg (P := P) j.toNat with q | q
  · exact q.2 i (by omega) z
  · omega
theorem fsE_rg {P : Nat → Prop} {n : Int} (h : n ≤ 12) : -9 ≤ fst1 P n.toNat ∧ fst1 P n.toNat ≤ 12 := by
  rcases fst1_rg (P := P) n.toNat with q | q <;> omega
theorem midC {en m i v : Int} {g : Nat → Int} {U K : Nat → Int32} {t : Nat} (h0 : 0 ≤ m) (hi : 0 ≤ i) (hi2 : i < en) (hA : ∀ j : Nat, (j : Int) < i → g j = lv en.toNat U K t (m + 1).toNat j) (hB : ∀ j : Nat, i ≤ j → (j : Int) < en → g j = lv en.toNat U K t m.toNat j) (hv : (g i.toNat = -9 ∧ fst1 (fun j => g j = m ∧ cn (U j) (K i.toNat)) en.toNat ≠ -9 ∧ v = m + 1) ∨ (¬ (g i.toNat = -9 ∧ fst1 (fun j => g j = m ∧ cn (U j) (K i.toNat)) en.toNat ≠ -9) ∧ v = g i.toNat)) : v = lv en.toNat U K t (m + 1).toNat i.toNat := by
  have e1 : (m + 1).toNat - 1 = m.toNat := by omega
  refine mid_c (n := m + 1) (c := if fst1 (fun j => g j = m ∧ cn (U j) (K i.toNat)) en.toNat = -9 then 0 else 1) (by omega) hi hi2 hA (by rw [e1]; exact hB) ?_ ?_
  · constructor
    · intro hc
      rcases fst1_rg (P := fun j => g j = m ∧ cn (U j) (K i.toNat)) en.toNat with q | q
      · rw [if_pos q.1] at hc
        omega
      · exact ⟨_, by omega, by rw [q.2.2.1.1]; omega, q.2.2.1.2⟩
    · rintro ⟨j, a, b, d⟩
      have q := fst1_ex (P := fun j => g j = m ∧ cn (U j) (K i.toNat)) (n := en.toNat) (j := j) (by omega) ⟨by omega, d⟩
      rw [if_neg (by omega)]
  · rcases hv with ⟨a, b, d⟩ | ⟨a, d⟩
    · left
      exact ⟨a, if_neg b, d⟩
    · right
      refine ⟨fun q => a ⟨q.1, fun z => ?_⟩, d⟩
      have q2 := q.2
      rw [if_pos z] at q2
      omega
theorem stA {e : Int} {g f : Nat → Int} (he : 0 ≤ e) (hA : ∀ j : Nat, (j : Int) < e → g j = f j) (hv : g e.toNat = f e.toNat) : ∀ j : Nat, (j : Int) < e + 1 → g j = f j := by
  intro j hj
  by_cases q : (j : Int) = e
  · rw [show j = e.toNat by omega]
    exact hv
  · exact hA j (by omega)
/-- so many values want so many places -/
theorem surjN : ∀ (n k : Nat) (f : Nat → Int), (∀ v : Nat, v < k → ∃ o : Nat, o < n ∧ f o = v) → k ≤ n
  | 0, k, f, H => by
    by_cases h : k = 0
    · omega
    · obtain ⟨o, ho, _⟩ := H 0 (by omega)
      omega
  | n + 1, k, f, H => by
    by_cases h : k = 0
    · omega
    · have z := surjN n (k - 1) (fun o => if f o = ((k - 1 : Nat) : Int) then f n else f o) (fun v hv => by
        by_cases hw : f n = (v : Int)
        · obtain ⟨o, ho, he⟩ := H (k - 1) (by omega)
          refine ⟨o, ?_, ?_⟩
          · by_cases q : o = n
            · subst q
              omega
            · omega
          · show (if f o = ((k - 1 : Nat) : Int) then f n else f o) = _
            rw [if_pos he]
            exact hw
        · obtain ⟨o, ho, he⟩ := H v (by omega)
          refine ⟨o, ?_, ?_⟩
          · by_cases q : o = n
            · subst q
              exact absurd he hw
            · omega
          · show (if f o = ((k - 1 : Nat) : Int) then f n else f o) = _
            rw [if_neg (by omega)]
            exact he)
      omega
section LVX
variable {en : Nat} {U K U' K' : Nat → Int32} {t : Nat}
theorem lv_hit {n : Nat} : ∀ (m o : Nat), o < en → lv en U K t n o = m → ∀ v : Nat, v ≤ m → ∃ j : Nat, j < en ∧ lv en U K t n j = v
  | 0, o, ho, h, v, hv => ⟨o, ho, by rw [h]; omega⟩
  | m + 1, o, ho, h, v, hv => by
    by_cases q : v = m + 1
    · exact ⟨o, ho, by rw [h, q]⟩
    · obtain ⟨j, h1, h2, h3⟩ := lv_dn n o (by rw [h]; omega)
      exact lv_hit m j h1 (by rw [h2, h]; omega) v (by omega)
/-- the last level adds nothing -/
theorem lv_top (e : Nat) (he : e < en) : lv en U K t en e = lv en U K t (en - 1) e := by
  obtain ⟨k, hk⟩ : ∃ k : Nat, en = k + 1 := ⟨en - 1, by omega⟩
  have main : ∀ m : Nat, m = k + 1 → lv en U K t m e = lv en U K t k e := by
    intro m hm
    subst hm
    rcases lv_q (en := en) (U := U) (K := K) (t := t) k e with h | h
    · exact h
    · exfalso
      obtain ⟨o, h1, h2, h3⟩ := h.2.2
      have H := surjN en (k + 2) (fun j => if lv en U K t k j = -9 then ((k + 1 : Nat) : Int) else lv en U K t k j) (fun v hv => by
        by_cases q : v = k + 1
        · refine ⟨e, he, ?_⟩
          show (if lv en U K t k e = -9 then ((k + 1 : Nat) : Int) else lv en U K t k e) = _
          rw [if_pos h.1, q]
        · obtain ⟨j, a, b⟩ := lv_hit k o h1 h2 v (by omega)
          refine ⟨j, a, ?_⟩
          show (if lv en U K t k j = -9 then ((k + 1 : Nat) : Int) else lv en U K t k j) = _
          rw [if_neg (by omega)]
          exact b)
      omega
  have e1 : en - 1 = k := by omega
  rw [e1]
  exact main en hk
theorem lv_cg (hU : ∀ j : Nat, j < en → U j = U' j) (hK : ∀ j : Nat, j < en → K j = K' j) : ∀ (n e : Nat), e < en → lv en U K t n e = lv en U' K' t n e
  | 0, e, he => rfl
  | n + 1, e, he => by
    have ih := lv_cg hU hK n
    have hh : hasO en (lv en U K t n) n U (K e) ↔ hasO en (lv en U' K' t n) n U' (K' e) := by
      constructor
      · rintro ⟨o, a, b, d⟩
        exact ⟨o, a, by rw [← ih o a]; exact b, by rw [← hU o a, ← hK e he]; exact d⟩
      · rintro ⟨o, a, b, d⟩
        exact ⟨o, a, by rw [ih o a]; exact b, by rw [hU o a, hK e he]; exact d⟩
    by_cases q : lv en U K t n e = -9 ∧ hasO en (lv en U K t n) n U (K e)
    · rw [lv_pos q.1 q.2, lv_pos (by rw [← ih e he]; exact q.1) (hh.mp q.2)]
    · rw [lv_neg q, lv_neg (fun z => q ⟨by rw [ih e he]; exact z.1, hh.mpr z.2⟩), ih e he]
theorem lds_lt {f : Nat → Int} {a : Int} (ha : a.toNat < en) : ∀ s : Nat, (lds en f U K a s).toNat < en
  | 0 => ha
  | s + 1 => by
    rw [lds]
    rcases fst1_rg (P := fun o => f o = f (lds en f U K a s).toNat - 1 ∧ cn (U o) (K (lds en f U K a s).toNat)) en with q | q <;> omega
theorem lds_cg {f f' : Nat → Int} {a : Int} (ha : a.toNat < en) (hf : ∀ j : Nat, j < en → f j = f' j) (hU : ∀ j : Nat, j < en → U j = U' j) (hK : ∀ j : Nat, j < en → K j = K' j) : ∀ s : Nat, lds en f U K a s = lds en f' U' K' a s
  | 0 => rfl
  | s + 1 => by
    have ih := lds_cg ha hf hU hK s
    have lt := lds_lt (f := f') (U := U') (K := K') ha s
    rw [lds, lds, ih]
    exact fst1_cg (fun j hj => by rw [hf j hj, hf _ lt, hU j hj, hK _ lt])
end LVX
theorem Kf_up {ek : Nat → Int} {a wd : Int} (ha : 0 ≤ a) : (fun e => iZ (va_up ek a.toNat ((iZ (ek a.toNat) ||| iZ wd).toInt) e)) = Kf ek a wd := by
  funext e
  unfold Kf va_up
  by_cases q : e = a.toNat
  · rw [if_pos q, if_pos (by omega), q]
    exact iZ_of _
  · rw [if_neg q, if_neg (by omega), ← iZ_0]
    exact Int32.or_zero.symm
theorem upup {f : Nat → Int} {i : Nat} {v : Int} : va_up (va_up f i v) i (f i) = f := by
  funext j
  unfold va_up
  by_cases q : j = i
  · rw [if_pos q, q]
  · rw [if_neg q, if_neg q]
theorem lv0E {en b : Int} {g : Nat → Int} {U K : Nat → Int32} (he : en ≤ 12) (hA : ∀ j : Nat, (j : Int) < 12 → g j = -9) : ∀ j : Nat, (j : Int) < en → va_up g b.toNat 0 j = lv en.toNat U K b.toNat (0 : Int).toNat j := by
  intro j hj
  show va_up g b.toNat 0 j = lv en.toNat U K b.toNat 0 j
  unfold lv va_up
  by_cases q : j = b.toNat
  · rw [if_pos q, if_pos q]
  · rw [if_neg q, if_neg q]
    exact hA j (by omega)
theorem fw_eq {en a b wd : Int} {eu ek g : Nat → Int} (ha : 0 ≤ a) (h : ∀ j : Nat, (j : Int) < en → g j = lv en.toNat (fun o => iZ (eu o)) (fun e => iZ (va_up ek a.toNat ((iZ (ek a.toNat) ||| iZ wd).toInt) e)) b.toNat en.toNat j) : ∀ j : Nat, (j : Int) < en → g j = lvE en eu ek a b wd j := by
  intro j hj
  rw [h j hj, Kf_up ha, lv_top j (by omega)]
  rfl
section CGE
variable {en a b wd k x : Int} {us us' kn kn' : Nat → Int}
theorem lvE_cg (h : ∀ j : Nat, (j : Int) < en → us j = us' j ∧ kn j = kn' j) (e : Nat) (he : (e : Int) < en) : lvE en us kn a b wd e = lvE en us' kn' a b wd e :=
  lv_cg (fun j hj => congrArg iZ (h j (by omega)).1) (fun j hj => by unfold Kf; rw [(h j (by omega)).2]) _ e (by omega)
theorem ldF_cg (h : ∀ j : Nat, (j : Int) < en → us j = us' j ∧ kn j = kn' j) (ha : 0 ≤ a ∧ a < en) : ldF en us kn a b k = ldF en us' kn' a b k := by
  unfold ldF
  rw [lvE_cg h a.toNat (by omega), lds_cg (by omega) (fun j hj => lvE_cg h j (by omega)) (fun j hj => congrArg iZ (h j (by omega)).1) (fun j hj => congrArg iZ (h j (by omega)).2)]
theorem ndF_cg (h : ∀ j : Nat, (j : Int) < en → us j = us' j ∧ kn j = kn' j) (ha : 0 ≤ a ∧ a < en) : ndF en us kn a b x = ndF en us' kn' a b x := by
  have e : (fun wd => lvE en us kn a b wd a.toNat) = (fun wd => lvE en us' kn' a b wd a.toNat) := by
    funext wd
    exact lvE_cg h a.toNat (by omega)
  unfold ndF
  rw [e]
end CGE
