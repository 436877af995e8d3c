/-! the reference's way through a text with names -/
def nmR (RES : NR) (tn : Int) (tf : Int → Int) (due la p z : Int) (f g pl : Nat → Int) : Prop := ∃ b l : Nat → Int, nmJ RES tn tf due la p z b l pl ∧ agr z f b ∧ agr z g l
section NMR
variable {RES : NR} {tn : Int} {tf : Int → Int} {due la p z : Int} {f g pl : Nat → Int}
theorem R_0 (h : 0 ≤ tn) : nmR (nmE tn tf) tn tf 0 (-9) (gapE tn tf 0 0) 0 f g (fun _ => -9) := ⟨_, _, nmJ_0 h, agr_0, agr_0⟩
theorem R_end (H : nmR RES tn tf 0 la p z f g pl) (hp : p ≤ 200) (h : tn ≤ p) : ∃ b l : Nat → Int, RES = (if z = 0 then tn else -9, z, b, l, pl) ∧ agr z f b ∧ agr z g l := by
  obtain ⟨b, l, h1, h2, h3⟩ := H
  have e := J_end h1 hp h
  refine ⟨b, l, ?_, h2, h3⟩
  rw [e]
  by_cases q : z = 0
  · rw [if_pos (Or.inr q), if_pos q]
  · rw [if_neg (by omega), if_neg q]
theorem R_lf (H : nmR RES tn tf 0 la p z f g pl) (hp : p ≤ 200) (h : p < tn) (hK : tkK tn tf p = 2) (hpl : pl (tkV tn tf p).toNat ≠ -9) : RES.1 = p := by
  obtain ⟨b, l, h1, h2, h3⟩ := H
  rw [J_lf h1 hp h hK (by decide) (fun q => hpl q.2)]
theorem R_l0 (H : nmR RES tn tf 0 la p z f g pl) (hp : p ≤ 200) (h : p < tn) (hK : tkK tn tf p = 2) (hpl : pl (tkV tn tf p).toNat = -9) : nmR RES tn tf 1 p (gapE tn tf 0 (tkE tn tf p)) z f g (va_up pl (tkV tn tf p).toNat z) := by
  obtain ⟨b, l, h1, h2, h3⟩ := H
  exact ⟨b, l, J_l0 h1 hp h hK rfl hpl, h2, h3⟩
theorem R_1y (H : nmR RES tn tf 1 la p z f g pl) (hp : p ≤ 200) (h : p < tn) (hK : tkK tn tf p = 4) (hl : p = la + 1) : nmR RES tn tf 0 la (gapE tn tf 0 (tkE tn tf p)) z f g pl := by
  obtain ⟨b, l, h1, h2, h3⟩ := H
  exact ⟨b, l, J_c h1 hp h hK ⟨rfl, hl⟩, h2, h3⟩
theorem R_1n (H : nmR RES tn tf 1 la p z f g pl) (hp : p ≤ 200) (hn : p ≤ tn) (hK : ¬ (p < tn ∧ tkK tn tf p = 4 ∧ p = la + 1)) : RES.1 = p := by
  obtain ⟨b, l, h1, h2, h3⟩ := H
  by_cases h : p < tn
  · by_cases k4 : tkK tn tf p = 4
    · rw [J_cf h1 hp h k4 (fun q => hK ⟨h, k4, q.2⟩)]
    · by_cases k2 : tkK tn tf p = 2
      · rw [J_lf h1 hp h k2 (by decide) (fun q => absurd q.1 (by decide))]
      · by_cases k3 : tkK tn tf p = 3
        · rw [J_nf h1 hp h k3 (by decide)]
        · by_cases k1 : tkK tn tf p = 1
          · rw [J_wf h1 hp h k1 (by decide)]
          · rw [J_x h1 hp h k1 k2 k3 k4]
  · rw [J_end h1 hp (by omega), if_pos (Or.inl (by decide))]
    show tn = p
    omega
theorem R_0f (H : nmR RES tn tf 0 la p z f g pl) (hp : p ≤ 200) (h : p < tn) (k1 : tkK tn tf p ≠ 1) (k2 : tkK tn tf p ≠ 2) : RES.1 = p := by
  obtain ⟨b, l, h1, h2, h3⟩ := H
  by_cases k4 : tkK tn tf p = 4
  · rw [J_cf h1 hp h k4 (fun q => absurd q.1 (by decide))]
  · by_cases k3 : tkK tn tf p = 3
    · rw [J_nf h1 hp h k3 (by decide)]
    · rw [J_x h1 hp h k1 k2 k3 k4]
theorem R_wb (H : nmR RES tn tf 0 la p z f g pl) (hp : p ≤ 200) (h : p < tn) (hK : tkK tn tf p = 1) (hV : tkV tn tf p = 16) : nmR RES tn tf 2 la (gapE tn tf 0 (tkE tn tf p)) z f g pl := by
  obtain ⟨b, l, h1, h2, h3⟩ := H
  exact ⟨b, l, J_wb h1 hp h hK rfl hV, h2, h3⟩
theorem R_wn (H : nmR RES tn tf 0 la p z f g pl) (hz : 0 ≤ z) (hp : p ≤ 200) (h : p < tn) (hK : tkK tn tf p = 1) (hV : tkV tn tf p ≠ 16) (hn : hsn (tkV tn tf p)) : nmR RES tn tf 2 la (gapE tn tf 0 (tkE tn tf p)) (z + 1) (va_up f z.toNat (tkV tn tf p)) (va_up g z.toNat p) pl := by
  obtain ⟨b, l, h1, h2, h3⟩ := H
  exact ⟨_, _, J_wn h1 hp h hK rfl hV hn, agr_up hz h2, agr_up hz h3⟩
theorem R_w0 (H : nmR RES tn tf 0 la p z f g pl) (hz : 0 ≤ z) (hp : p ≤ 200) (h : p < tn) (hK : tkK tn tf p = 1) (hV : tkV tn tf p ≠ 16) (hn : ¬ hsn (tkV tn tf p)) : nmR RES tn tf 0 la (gapE tn tf 0 (tkE tn tf p)) (z + 1) (va_up f z.toNat (tkV tn tf p)) (va_up g z.toNat p) pl := by
  obtain ⟨b, l, h1, h2, h3⟩ := H
  exact ⟨_, _, J_w0 h1 hp h hK rfl hV hn, agr_up hz h2, agr_up hz h3⟩
theorem R_2l (H : nmR RES tn tf 2 la p z f g pl) (hz : 0 ≤ z) (hp : p ≤ 200) (h : p < tn) (hK : tkK tn tf p = 2) : nmR RES tn tf 0 la (gapE tn tf 0 (tkE tn tf p)) (z + 1) (va_up f z.toNat (-1 - tkV tn tf p)) (va_up g z.toNat p) pl := by
  obtain ⟨b, l, h1, h2, h3⟩ := H
  exact ⟨_, _, J_l2 h1 hp h hK rfl, agr_up hz h2, agr_up hz h3⟩
theorem R_2n (H : nmR RES tn tf 2 la p z f g pl) (hz : 0 ≤ z) (hp : p ≤ 200) (h : p < tn) (hK : tkK tn tf p = 3) : nmR RES tn tf 0 la (gapE tn tf 0 (tkE tn tf p)) (z + 1) (va_up f z.toNat (tkV tn tf p)) (va_up g z.toNat p) pl := by
  obtain ⟨b, l, h1, h2, h3⟩ := H
  exact ⟨_, _, J_n2 h1 hp h hK rfl, agr_up hz h2, agr_up hz h3⟩
theorem R_2f (H : nmR RES tn tf 2 la p z f g pl) (hp : p ≤ 200) (hn : p ≤ tn) (hK : ¬ (p < tn ∧ (tkK tn tf p = 2 ∨ tkK tn tf p = 3))) : RES.1 = p := by
  obtain ⟨b, l, h1, h2, h3⟩ := H
  by_cases h : p < tn
  · have k2 : tkK tn tf p ≠ 2 := fun q => hK ⟨h, Or.inl q⟩
    have k3 : tkK tn tf p ≠ 3 := fun q => hK ⟨h, Or.inr q⟩
    by_cases k4 : tkK tn tf p = 4
    · rw [J_cf h1 hp h k4 (fun q => absurd q.1 (by decide))]
    · by_cases k1 : tkK tn tf p = 1
      · rw [J_wf h1 hp h k1 (by decide)]
      · rw [J_x h1 hp h k1 k2 k3 k4]
  · rw [J_end h1 hp (by omega), if_pos (Or.inl (by decide))]
    show tn = p
    omega
end NMR
/-- the token at hand -/
def tkT (tn : Int) (tf : Int → Int) (st so va pa : Int) : Prop := (tn ≤ st ∧ so = 0 ∧ pa = st) ∨ (st < tn ∧ so = tkK tn tf st ∧ pa = tkE tn tf st ∧ (so = 1 ∨ so = 2 ∨ so = 3 → va = tkV tn tf st))
section TKT
variable {tn : Int} {tf : Int → Int} {st so va pa p : Int}
theorem tkK_rg : 1 ≤ tkK tn tf p ∧ tkK tn tf p ≤ 5 := by
  unfold tkK
  split
  · split <;> omega
  · split
    · split <;> omega
    · split
      · omega
      · split <;> omega
theorem tkT_1 (h : tkT tn tf st so va pa) (hs : so ≠ 0) : st < tn ∧ so = tkK tn tf st ∧ pa = tkE tn tf st ∧ (so = 1 ∨ so = 2 ∨ so = 3 → va = tkV tn tf st) := by
  rcases h with h | h
  · omega
  · exact h
theorem tkT_0 (h : tkT tn tf st so va pa) (hs : so = 0) : tn ≤ st ∧ pa = st := by
  rcases h with h | h
  · exact ⟨h.1, h.2.2⟩
  · have := tkK_rg (tn := tn) (tf := tf) (p := st)
    omega
theorem tkT_le (h : tkT tn tf st so va pa) (hs : st ≤ tn) : st ≤ pa ∧ pa ≤ tn ∧ (so = 0 ∨ st < pa) := by
  rcases h with h | h
  · omega
  · have := tkE_rg (tf := tf) h.1
    omega
theorem tkT_k (h : tkT tn tf st so va pa) : st < tn → so = tkK tn tf st := by
  intro q
  rcases h with h | h
  · omega
  · exact h.2.1
theorem tkV_l (h : tkK tn tf p = 2) : 0 ≤ tkV tn tf p ∧ tkV tn tf p ≤ 25 := by
  by_cases c1 : 97 ≤ tf p ∧ tf p ≤ 122
  · rw [(tk_small c1).2.2] at h
    split at h <;> omega
  · by_cases c2 : 48 ≤ tf p ∧ tf p ≤ 57
    · rw [(tk_digit c2).2.2] at h
      split at h <;> omega
    · by_cases c3 : 65 ≤ tf p ∧ tf p ≤ 90
      · rw [(tk_letter c3).2.1]
        omega
      · by_cases c4 : tf p = 58
        · rw [(tk_colon c4).1] at h
          omega
        · rw [tk_none c1 c2 c3 c4] at h
          omega
theorem tkV_w (h : tkK tn tf p = 1) : 0 ≤ tkV tn tf p ∧ tkV tn tf p ≤ 16 := by
  by_cases c1 : 97 ≤ tf p ∧ tf p ≤ 122
  · have k := tk_small (tn := tn) c1
    have r := wdx_rg tf p (sqE tn tf 97 122 p - p)
    rw [← k.2.1] at r
    rw [k.2.2] at h
    split at h <;> omega
  · by_cases c2 : 48 ≤ tf p ∧ tf p ≤ 57
    · rw [(tk_digit c2).2.2] at h
      split at h <;> omega
    · by_cases c3 : 65 ≤ tf p ∧ tf p ≤ 90
      · rw [(tk_letter c3).1] at h
        omega
      · by_cases c4 : tf p = 58
        · rw [(tk_colon c4).1] at h
          omega
        · rw [tk_none c1 c2 c3 c4] at h
          omega
theorem tkV_n (hp : p < tn) (h : tkK tn tf p = 3) : 0 ≤ tkV tn tf p ∧ tkV tn tf p ≤ 255 := by
  by_cases c1 : 97 ≤ tf p ∧ tf p ≤ 122
  · rw [(tk_small c1).2.2] at h
    split at h <;> omega
  · by_cases c2 : 48 ≤ tf p ∧ tf p ≤ 57
    · have k := tk_digit (tn := tn) c2
      have e := sq_rg (tn := tn) (tf := tf) (lo := 48) (hi := 57) (i := p + 1) (by omega)
      rw [← sq_on hp c2.1 c2.2] at e
      have hc : ∀ j : Int, p ≤ j → j < p + (sqE tn tf 48 57 p - p) → 48 ≤ tf j ∧ tf j ≤ 57 := fun j a b => (sq_in (tn := tn) (tf := tf) (lo := 48) (hi := 57) _ p rfl j a (by omega)).2
      have r := nv_rel (tf := tf) (p := p) (len := sqE tn tf 48 57 p - p) (by omega) hc
      have g := nvs_rg (tf := tf) (p := p) (sqE tn tf 48 57 p - p).toNat (fun j hj => hc (p + j) (by omega) (by omega))
      rw [k.2.2, k.2.1] at h
      rw [k.2.1]
      by_cases q : 255 < nvs tf p (sqE tn tf 48 57 p - p).toNat ∨ (tf p = 48 ∧ 1 < sqE tn tf 48 57 p - p)
      · rw [r.1 q] at h
        simp at h
      · rw [(r.2 q).1]
        omega
    · by_cases c3 : 65 ≤ tf p ∧ tf p ≤ 90
      · rw [(tk_letter c3).1] at h
        omega
      · by_cases c4 : tf p = 58
        · rw [(tk_colon c4).1] at h
          omega
        · rw [tk_none c1 c2 c3 c4] at h
          omega
theorem tkE_l (h : tkK tn tf p = 2) : tkE tn tf p = p + 1 := by
  by_cases c1 : 97 ≤ tf p ∧ tf p ≤ 122
  · rw [(tk_small c1).2.2] at h
    split at h <;> omega
  · by_cases c2 : 48 ≤ tf p ∧ tf p ≤ 57
    · rw [(tk_digit c2).2.2] at h
      split at h <;> omega
    · unfold tkE
      rw [if_neg c1, if_neg c2]
end TKT
noncomputable def nmP (R : NR) : PR := if R.1 = -9 then ((rsv 201 0 R.2.1 R.2.2.1 R.2.2.2.1 R.2.2.2.2).1, R.2.1, (rsv 201 0 R.2.1 R.2.2.1 R.2.2.2.1 R.2.2.2.2).2, R.2.2.2.1) else (R.1, R.2.1, R.2.2.1, R.2.2.2.1)
theorem nr_R {RES : NR} {r n : Int} {f g : Nat → Int} (h : RES.1 = r) (hr : 0 ≤ r) : nrR (nmP RES) r n f g := by
  unfold nmP
  rw [if_neg (by omega)]
  exact ⟨h, fun q => by omega⟩
theorem nr_P {RES : NR} {r z : Int} {b l pl f g : Nat → Int} (hE : RES = (-9, z, b, l, pl)) (h1 : (rsv 201 0 z b l pl).1 = r) (h2 : r = -9 → agr z f (rsv 201 0 z b l pl).2) (h3 : agr z g l) : nrR (nmP RES) r z f g := by
  subst hE
  unfold nmP
  rw [if_pos rfl]
  exact ⟨h1, fun q => ⟨rfl, h2 q, h3⟩⟩
/-- the reference's last way through the letters -/
def rpI (RS : Int × (Nat → Int)) (L : Nat → Int) (j z : Int) (f g pl : Nat → Int) : Prop := ∃ (k : Nat) (b : Nat → Int), 201 ≤ (k : Int) + j ∧ rsv k j z b L pl = RS ∧ agr z f b ∧ agr z g L
section RP
variable {RS : Int × (Nat → Int)} {L : Nat → Int} {j z : Int} {f g pl : Nat → Int}
theorem rp_end (H : rpI RS L j z f g pl) (hj : j ≤ 200) (h : z ≤ j) : RS.1 = -9 ∧ agr z f RS.2 := by
  obtain ⟨k, b, h1, h2, h3, h4⟩ := H
  rw [show k = k - 1 + 1 by omega, rsv, if_neg (by omega)] at h2
  subst h2
  exact ⟨rfl, h3⟩
theorem rp_n (H : rpI RS L j z f g pl) (h0 : 0 ≤ j) (hj : j ≤ 200) (h : j < z) (hv : 0 ≤ f j.toNat) : rpI RS L (j + 1) z f g pl := by
  obtain ⟨k, b, h1, h2, h3, h4⟩ := H
  have e := h3 j.toNat (by omega)
  rw [show k = k - 1 + 1 by omega, rsv, if_pos h, if_neg (by omega)] at h2
  exact ⟨k - 1, b, by omega, h2, h3, h4⟩
theorem rp_f (H : rpI RS L j z f g pl) (h0 : 0 ≤ j) (hj : j ≤ 200) (h : j < z) (hv : f j.toNat < 0) (hp : pl (-1 - f j.toNat).toNat = -9) : RS.1 = g j.toNat := by
  obtain ⟨k, b, h1, h2, h3, h4⟩ := H
  have e := h3 j.toNat (by omega)
  rw [e] at hv hp
  rw [show k = k - 1 + 1 by omega, rsv, if_pos h, if_pos hv, if_pos hp] at h2
  subst h2
  exact (h4 j.toNat (by omega)).symm
theorem rp_y (H : rpI RS L j z f g pl) (h0 : 0 ≤ j) (hj : j ≤ 200) (h : j < z) (hv : f j.toNat < 0) (hp : pl (-1 - f j.toNat).toNat ≠ -9) : rpI RS L (j + 1) z (va_up f j.toNat (pl (-1 - f j.toNat).toNat)) g pl := by
  obtain ⟨k, b, h1, h2, h3, h4⟩ := H
  have e := h3 j.toNat (by omega)
  rw [e] at hv hp ⊢
  rw [show k = k - 1 + 1 by omega, rsv, if_pos h, if_pos hv, if_neg hp] at h2
  refine ⟨k - 1, _, by omega, h2, fun i hi => ?_, h4⟩
  unfold va_up
  split
  · rfl
  · exact h3 i hi
end RP
def nmR0 (RES : NR) (tn : Int) (tf : Int → Int) (p z : Int) (f g pl : Nat → Int) : Prop := ∃ la : Int, nmR RES tn tf 0 la p z f g pl
theorem sl12_at {bf : Nat → Int} {j : Int} (h : 0 ≤ j) : sl12 bf j.toNat = bf (3072 + j).toNat := by
  unfold sl12
  congr 1
  omega
