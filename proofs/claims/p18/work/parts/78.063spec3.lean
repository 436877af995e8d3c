/-! settles, round, hides; steps of least (behind C6) -/
theorem run0_cg {tn n : Int} {X : Int → Int} {f f' : Nat → Int} (h : agr n f f') : run0 tn X n f = run0 tn X n f' := mrun_f h
theorem rn_cg {tn n hm a x p e d t c : Int} {X : Int → Int} {f m ou ol : Nat → Int} (h : rnR (run0 tn X n f) hm a x p e d t c m ou ol) : run0 tn X (msC (run0 tn X n f).2) (msO (run0 tn X n f).2) = run0 tn X c ou := by
  obtain ⟨-, -, -, -, -, -, -, h7, -, h9, -⟩ := h
  have hc : msC (run0 tn X n f).2 = c := h7
  rw [hc]
  exact run0_cg (fun j hj => h9 j hj)
section SE
variable (tn : Int) (X : Int → Int)
/-- settles: so many builds more, the next one's number, what is ahead -/
noncomputable def seF : Nat → Int → Int → (Nat → Int) → Int
  | 0, _, _, _ => -9
  | k + 1, u, n, f => @ite Int (bldOk (run0 tn X n f)) (Classical.propDecidable _) (if ulk n f (msC (run0 tn X n f).2) (msO (run0 tn X n f).2) = 0 then u else seF k (u + 1) (msC (run0 tn X n f).2) (msO (run0 tn X n f).2)) (-9)
/-- goneRound -/
noncomputable def rdF (n : Int) (f : Nat → Int) (n' : Int) (f' : Nat → Int) : Int := @ite Int (bldOk (run0 tn X n f) ∧ bldOk (run0 tn X (msC (run0 tn X n f).2) (msO (run0 tn X n f).2)) ∧ bldOk (run0 tn X n' f') ∧ bldOk (run0 tn X (msC (run0 tn X n' f').2) (msO (run0 tn X n' f').2))) (Classical.propDecidable _) (ulk (msC (run0 tn X (msC (run0 tn X n f).2) (msO (run0 tn X n f).2)).2) (msO (run0 tn X (msC (run0 tn X n f).2) (msO (run0 tn X n f).2)).2) (msC (run0 tn X (msC (run0 tn X n' f').2) (msO (run0 tn X n' f').2)).2) (msO (run0 tn X (msC (run0 tn X n' f').2) (msO (run0 tn X n' f').2)).2)) (-2)
noncomputable def hdF (n : Int) (f : Nat → Int) (n' : Int) (f' : Nat → Int) : Int := if rdF tn X n f n' f' ≤ 0 then rdF tn X n f n' f' else if ulk n f (msC (run0 tn X n f).2) (msO (run0 tn X n f).2) = 0 then 1 else 0
end SE
section SEL
variable {tn : Int} {X : Int → Int} {n n' u hm a x p e d t c : Int} {f f' m ou ol : Nat → Int} {k : Nat}
theorem se_cg (h : agr n f f') : seF tn X k u n f = seF tn X k u n f' := by
  cases k with
  | zero => rfl
  | succ k =>
    rw [seF, seF, run0_cg h, ulk_cg (g1 := f') h (fun _ _ => rfl)]
theorem se_no (hn : ¬ bldOk (run0 tn X n f)) : seF tn X (k + 1) u n f = -9 := by
  rw [seF]
  exact if_neg hn
theorem ulk_rn (h : rnR (run0 tn X n f) hm a x p e d t c m ou ol) (n0 : Int) (f0 : Nat → Int) : ulk n0 f0 (msC (run0 tn X n f).2) (msO (run0 tn X n f).2) = ulk n0 f0 c ou := by
  obtain ⟨-, -, -, -, -, -, -, h7, -, h9, -⟩ := h
  have hc : msC (run0 tn X n f).2 = c := h7
  rw [hc]
  exact ulk_cg (fun _ _ => rfl) (fun q hq => h9 q hq)
theorem se_eq (ok : bldOk (run0 tn X n f)) (h : rnR (run0 tn X n f) hm a x p e d t c m ou ol) (hu : ulk n f c ou = 0) : seF tn X (k + 1) u n f = u := by
  rw [seF, if_pos ok, ulk_rn h, if_pos hu]
theorem se_go (ok : bldOk (run0 tn X n f)) (h : rnR (run0 tn X n f) hm a x p e d t c m ou ol) (hu : ulk n f c ou ≠ 0) : seF tn X (k + 1) u n f = seF tn X k (u + 1) c ou := by
  rw [seF, if_pos ok, ulk_rn h, if_neg hu]
  obtain ⟨-, -, -, -, -, -, -, h7, -, h9, -⟩ := h
  have hc : msC (run0 tn X n f).2 = c := h7
  rw [hc]
  exact se_cg (fun j hj => h9 j hj)
theorem rd_n (h : ¬ (bldOk (run0 tn X n f) ∧ bldOk (run0 tn X (msC (run0 tn X n f).2) (msO (run0 tn X n f).2)) ∧ bldOk (run0 tn X n' f') ∧ bldOk (run0 tn X (msC (run0 tn X n' f').2) (msO (run0 tn X n' f').2)))) : rdF tn X n f n' f' = -2 := by
  unfold rdF
  exact if_neg h
theorem rd_y {c1 c2 r : Int} {f1 f2 : Nat → Int} (h : bldOk (run0 tn X n f) ∧ bldOk (run0 tn X (msC (run0 tn X n f).2) (msO (run0 tn X n f).2)) ∧ bldOk (run0 tn X n' f') ∧ bldOk (run0 tn X (msC (run0 tn X n' f').2) (msO (run0 tn X n' f').2))) (e1 : msC (run0 tn X (msC (run0 tn X n f).2) (msO (run0 tn X n f).2)).2 = c1) (g1 : agr c1 (msO (run0 tn X (msC (run0 tn X n f).2) (msO (run0 tn X n f).2)).2) f1) (e2 : msC (run0 tn X (msC (run0 tn X n' f').2) (msO (run0 tn X n' f').2)).2 = c2) (g2 : agr c2 (msO (run0 tn X (msC (run0 tn X n' f').2) (msO (run0 tn X n' f').2)).2) f2) (hr : r = ulk c1 f1 c2 f2) : r = rdF tn X n f n' f' := by
  unfold rdF
  rw [if_pos h, e1, e2, hr]
  exact (ulk_cg g1 g2).symm
theorem rd_pos (h : rdF tn X n f n' f' ≠ -2) : bldOk (run0 tn X n f) := by
  by_cases z : bldOk (run0 tn X n f)
  · exact z
  · exact absurd (rd_n (fun q => z q.1)) h
theorem hd_le {v : Int} (hv : v = rdF tn X n f n' f') (h : v ≤ 0) : v = hdF tn X n f n' f' := by
  unfold hdF
  rw [← hv, if_pos h]
theorem hd_1 {v : Int} (hv : v = rdF tn X n f n' f') (h : 0 < v) (hu : ulk n f (msC (run0 tn X n f).2) (msO (run0 tn X n f).2) = 0) : 1 = hdF tn X n f n' f' := by
  unfold hdF
  rw [← hv, if_neg (by omega), if_pos hu]
theorem hd_0 {v : Int} (hv : v = rdF tn X n f n' f') (h : 0 < v) (hu : ulk n f (msC (run0 tn X n f).2) (msO (run0 tn X n f).2) ≠ 0) : 0 = hdF tn X n f n' f' := by
  unfold hdF
  rw [← hv, if_neg (by omega), if_neg hu]
theorem rn_C (h : rnR (run0 tn X n f) hm a x p e d t c m ou ol) : msC (run0 tn X n f).2 = c := h.2.2.2.2.2.2.2.1
theorem rn_O (h : rnR (run0 tn X n f) hm a x p e d t c m ou ol) : agr c (msO (run0 tn X n f).2) ou := h.2.2.2.2.2.2.2.2.2.1
end SEL
def seP (S : Int) (tc t i r : Int) : Prop := (0 ≤ t ∧ t < tc ∧ 0 ≤ i ∧ i ≤ 7 → r = S) ∧ (¬ (0 ≤ t ∧ t < tc ∧ 0 ≤ i ∧ i ≤ 7) → r = -1)
theorem se_join {S tc t i r r' : Int} (a : seP S tc t i r) (b : seP S tc t i r') : r = r' := by
  by_cases z : 0 ≤ t ∧ t < tc ∧ 0 ≤ i ∧ i ≤ 7
  · rw [a.1 z, b.1 z]
  · rw [a.2 z, b.2 z]
def rdP (S : Int) (tc t u i r : Int) : Prop := (0 ≤ t ∧ t < tc ∧ 0 ≤ u ∧ u < tc ∧ 0 ≤ i ∧ i ≤ 7 → r = S) ∧ (¬ (0 ≤ t ∧ t < tc ∧ 0 ≤ u ∧ u < tc ∧ 0 ≤ i ∧ i ≤ 7) → r = -1)
theorem rd_join {S tc t u i r r' : Int} (a : rdP S tc t u i r) (b : rdP S tc t u i r') : r = r' := by
  by_cases z : 0 ≤ t ∧ t < tc ∧ 0 ≤ u ∧ u < tc ∧ 0 ≤ i ∧ i ≤ 7
  · rw [a.1 z, b.1 z]
  · rw [a.2 z, b.2 z]
section LSS
variable {V : Nat → Nat → Int} {F b : Int32} {j e : Int} {tc : Nat}
theorem ls_stay (hj : 0 ≤ j) (hb : b = lsF V F (min j (tc : Int)).toNat) (h : j < tc → ¬ (hbR F j ∧ V 1 (lastF (V 3) j).toNat = 0 ∧ V 4 (lastF (V 3) j).toNat = 0)) : b = lsF V F (min (j + 1) (tc : Int)).toNat := by
  by_cases z : j < tc
  · have e1 : (min j (tc : Int)).toNat = j.toNat := by omega
    have e2 : (min (j + 1) (tc : Int)).toNat = (j + 1).toNat := by omega
    rw [e1] at hb
    rw [e2]
    exact lsF_n hj hb (h z)
  · have e1 : (min (j + 1) (tc : Int)).toNat = (min j (tc : Int)).toNat := by omega
    rw [e1]
    exact hb
theorem ls_add (hj : 0 ≤ j ∧ j < tc) (hb : b = lsF V F (min j (tc : Int)).toNat) (he : e = lastF (V 3) j) (h : hbR F j) (h1 : V 1 e.toNat = 0) (h2 : V 4 e.toNat = 0) : b ||| (iZ 1 <<< (iZ e &&& 31)) = lsF V F (min (j + 1) (tc : Int)).toNat := by
  have e1 : (min j (tc : Int)).toNat = j.toNat := by omega
  have e2 : (min (j + 1) (tc : Int)).toNat = (j + 1).toNat := by omega
  rw [e1] at hb
  rw [e2]
  exact lsF_y hj.1 hb he h h1 h2
theorem ls_0 : iZ 0 = lsF V F (min 0 (tc : Int)).toNat := by
  have e : (min 0 (tc : Int)).toNat = 0 := by omega
  rw [e]
  rfl
theorem ls_e (h : j = 12) (ht : tc ≤ 12) (hb : b = lsF V F (min j (tc : Int)).toNat) : b = lsF V F tc := by
  have e : (min j (tc : Int)).toNat = tc := by omega
  rw [e] at hb
  exact hb
end LSS
