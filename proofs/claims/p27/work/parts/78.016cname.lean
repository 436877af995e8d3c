/-! the class's way through a text with names -/
section TK
variable {tn : Int} {tf : Int → Int} {p : Int}
theorem tk_colon (h : tf p = 58) : tkK tn tf p = 4 ∧ tkE tn tf p = p + 1 := by
  unfold tkK tkE
  rw [if_neg (by omega), if_neg (by omega), if_neg (by omega), if_pos h, if_neg (by omega), if_neg (by omega)]
  exact ⟨rfl, rfl⟩
theorem tk_letter (h : 65 ≤ tf p ∧ tf p ≤ 90) : tkK tn tf p = 2 ∧ tkV tn tf p = tf p - 65 ∧ tkE tn tf p = p + 1 := by
  unfold tkK tkV tkE
  rw [if_neg (by omega), if_neg (by omega), if_pos h, if_neg (by omega), if_neg (by omega), if_neg (by omega), if_neg (by omega)]
  exact ⟨rfl, rfl, rfl⟩
theorem tk_digit (h : 48 ≤ tf p ∧ tf p ≤ 57) : tkE tn tf p = sqE tn tf 48 57 p ∧ tkV tn tf p = nval tf p (sqE tn tf 48 57 p - p) ∧ tkK tn tf p = if tkV tn tf p = -9 then 5 else 3 := by
  refine ⟨?_, ?_, ?_⟩
  · unfold tkE
    rw [if_neg (by omega), if_pos h]
  · unfold tkV
    rw [if_neg (by omega), if_pos h]
  · unfold tkK
    rw [if_neg (by omega), if_pos h]
theorem tk_small (h : 97 ≤ tf p ∧ tf p ≤ 122) : tkE tn tf p = sqE tn tf 97 122 p ∧ tkV tn tf p = wdx tf p (sqE tn tf 97 122 p - p) ∧ tkK tn tf p = if tkV tn tf p = -9 then 5 else 1 := by
  refine ⟨?_, ?_, ?_⟩
  · unfold tkE
    rw [if_pos h]
  · unfold tkV
    rw [if_pos h]
  · unfold tkK
    rw [if_pos h]
theorem tk_none (h : ¬ (97 ≤ tf p ∧ tf p ≤ 122)) (h1 : ¬ (48 ≤ tf p ∧ tf p ≤ 57)) (h2 : ¬ (65 ≤ tf p ∧ tf p ≤ 90)) (h3 : tf p ≠ 58) : tkK tn tf p = 5 := by
  unfold tkK
  rw [if_neg h, if_neg h1, if_neg h2, if_neg h3]
theorem tkS_0 (hp : p < tn) (h : tkS tn tf p = 0) : tkK tn tf p = 5 := by
  unfold tkS at h
  by_cases c1 : 97 ≤ tf p ∧ tf p ≤ 122
  · rw [if_pos c1, sq_on hp c1.1 c1.2] at h
    have := sq_rg (tn := tn) (tf := tf) (lo := 97) (hi := 122) (i := p + 1) (by omega)
    omega
  · rw [if_neg c1] at h
    by_cases c2 : 48 ≤ tf p ∧ tf p ≤ 57
    · rw [if_pos c2, sq_on hp c2.1 c2.2] at h
      have := sq_rg (tn := tn) (tf := tf) (lo := 48) (hi := 57) (i := p + 1) (by omega)
      omega
    · rw [if_neg c2] at h
      by_cases c3 : (65 ≤ tf p ∧ tf p ≤ 90) ∨ tf p = 58
      · rw [if_pos c3] at h
        omega
      · exact tk_none c1 c2 (by omega) (by omega)
theorem tkS_E (h : tkS tn tf p ≠ 0) : p + tkS tn tf p = tkE tn tf p := by
  unfold tkS at h ⊢
  unfold tkE
  by_cases c1 : 97 ≤ tf p ∧ tf p ≤ 122
  · rw [if_pos c1, if_pos c1]
    omega
  · rw [if_neg c1, if_neg c1]
    rw [if_neg c1] at h
    by_cases c2 : 48 ≤ tf p ∧ tf p ≤ 57
    · rw [if_pos c2, if_pos c2]
      omega
    · rw [if_neg c2, if_neg c2]
      rw [if_neg c2] at h
      by_cases c3 : (65 ≤ tf p ∧ tf p ≤ 90) ∨ tf p = 58
      · rw [if_pos c3]
      · rw [if_neg c3] at h
        exact absurd rfl h
theorem tkS_d (h : 48 ≤ tf p ∧ tf p ≤ 57) : tkS tn tf p = sqE tn tf 48 57 p - p := by
  unfold tkS
  rw [if_neg (by omega), if_pos h]
theorem tkS_w (h : 97 ≤ tf p ∧ tf p ≤ 122) : tkS tn tf p = sqE tn tf 97 122 p - p := by
  unfold tkS
  rw [if_pos h]
theorem tkS_n (hp : p < tn) (h : tkS tn tf p ≠ 0) (h1 : ¬ (48 ≤ tf p ∧ tf p ≤ 57)) (h2 : ¬ (65 ≤ tf p ∧ tf p ≤ 90)) (h3 : tf p ≠ 58) : 97 ≤ tf p ∧ tf p ≤ 122 := by
  by_cases c1 : 97 ≤ tf p ∧ tf p ≤ 122
  · exact c1
  · unfold tkS at h
    rw [if_neg c1, if_neg h1, if_neg (by omega)] at h
    exact absurd rfl h
theorem tkS_rg (hp : p < tn) : 0 ≤ tkS tn tf p ∧ p + tkS tn tf p ≤ tn := by
  by_cases q : tkS tn tf p = 0
  · omega
  · have := tkE_rg (tf := tf) hp
    have e := tkS_E q
    omega
end TK
def rlC (z : Int) (b f lu : Nat → Int) : Prop := (∀ j : Nat, (j : Int) < z → (b j < 0 → f j = 0 ∧ lu j = -1 - b j) ∧ (0 ≤ b j → f j = b j ∧ lu j = -9)) ∧ (∀ j : Nat, z ≤ j → j < 256 → lu j = -9) ∧ ∀ j : Nat, (j : Int) < z → -26 ≤ b j ∧ b j ≤ 255
theorem rl_num {z v : Int} {b f lu : Nat → Int} (h0 : 0 ≤ z) (hz : z < 256) (hv : 0 ≤ v ∧ v ≤ 255) (H : rlC z b f lu) : rlC (z + 1) (va_up b z.toNat v) (va_up f z.toNat v) lu := by
  obtain ⟨h1, h2, h3⟩ := H
  refine ⟨fun j hj => ?_, fun j hj hj2 => h2 j (by omega) hj2, fun j hj => ?_⟩
  · by_cases e : j = z.toNat
    · subst e
      rw [up_eq, up_eq]
      exact ⟨fun q => by omega, fun _ => ⟨rfl, h2 _ (by omega) (by omega)⟩⟩
    · rw [up_ne e, up_ne e]
      exact h1 j (by omega)
  · by_cases e : j = z.toNat
    · subst e
      rw [up_eq]
      omega
    · rw [up_ne e]
      exact h3 j (by omega)
theorem rl_let {z v : Int} {b f lu : Nat → Int} (h0 : 0 ≤ z) (hv : 0 ≤ v ∧ v ≤ 25) (H : rlC z b f lu) : rlC (z + 1) (va_up b z.toNat (-1 - v)) (va_up f z.toNat 0) (va_up lu z.toNat v) := by
  obtain ⟨h1, h2, h3⟩ := H
  refine ⟨fun j hj => ?_, fun j hj hj2 => by rw [up_ne (by omega)]; exact h2 j (by omega) hj2, fun j hj => ?_⟩
  · by_cases e : j = z.toNat
    · subst e
      rw [up_eq, up_eq, up_eq]
      exact ⟨fun _ => ⟨rfl, by omega⟩, fun q => by omega⟩
    · rw [up_ne e, up_ne e, up_ne e]
      exact h1 j (by omega)
  · by_cases e : j = z.toNat
    · subst e
      rw [up_eq]
      omega
    · rw [up_ne e]
      exact h3 j (by omega)
def nmC (RES : NR) (tn : Int) (tf : Int → Int) (due la p z : Int) (f g lu pl : Nat → Int) : Prop := ∃ b l : Nat → Int, nmJ RES tn tf due la p z b l pl ∧ rlC z b f lu ∧ agr z g l
section NMC
variable {RES : NR} {tn : Int} {tf : Int → Int} {due la p z : Int} {f g lu pl : Nat → Int}
theorem C_0 (h : 0 ≤ tn) : nmC (nmE tn tf) tn tf 0 (-9) (gapE tn tf 0 0) 0 f g (fun _ => -9) (fun _ => -9) := ⟨_, _, nmJ_0 h, ⟨fun j hj => by omega, fun j _ _ => rfl, fun j hj => by omega⟩, agr_0⟩
theorem C_c (H : nmC RES tn tf due la p z f g lu pl) (hp : p ≤ 200) (h : p < tn) (hc : tf p = 58) (hd : due = 1 ∧ p = la + 1) : nmC RES tn tf 0 la (gapE tn tf 0 (tkE tn tf p)) z f g lu pl := by
  obtain ⟨b, l, h1, h2, h3⟩ := H
  exact ⟨b, l, J_c h1 hp h (tk_colon hc).1 hd, h2, h3⟩
theorem C_cf (H : nmC RES tn tf due la p z f g lu pl) (hp : p ≤ 200) (h : p < tn) (hc : tf p = 58) (hd : ¬ (due = 1 ∧ p = la + 1)) : RES.1 = p := by
  obtain ⟨b, l, h1, h2, h3⟩ := H
  rw [J_cf h1 hp h (tk_colon hc).1 hd]
theorem C_l2 (H : nmC RES tn tf due la p z f g lu pl) (hp : p ≤ 200) (h : p < tn) (hz : 0 ≤ z) (hc : 65 ≤ tf p ∧ tf p ≤ 90) (hd : due = 2) : nmC RES tn tf 0 la (gapE tn tf 0 (tkE tn tf p)) (z + 1) (va_up f z.toNat 0) (va_up g z.toNat p) (va_up lu z.toNat (tf p - 65)) pl := by
  obtain ⟨b, l, h1, h2, h3⟩ := H
  have k := tk_letter (tn := tn) hc
  have j := J_l2 h1 hp h k.1 hd
  rw [k.2.1] at j
  exact ⟨_, _, j, rl_let hz (by omega) h2, agr_up hz h3⟩
theorem C_l0 (H : nmC RES tn tf due la p z f g lu pl) (hp : p ≤ 200) (h : p < tn) (hc : 65 ≤ tf p ∧ tf p ≤ 90) (hd : due = 0) (hpl : pl (tf p - 65).toNat = -9) : nmC RES tn tf 1 p (gapE tn tf 0 (tkE tn tf p)) z f g lu (va_up pl (tf p - 65).toNat z) := by
  obtain ⟨b, l, h1, h2, h3⟩ := H
  have k := tk_letter (tn := tn) hc
  have j := J_l0 h1 hp h k.1 hd (by rw [k.2.1]; exact hpl)
  rw [k.2.1] at j
  exact ⟨_, _, j, h2, h3⟩
theorem C_lf (H : nmC RES tn tf due la p z f g lu pl) (hp : p ≤ 200) (h : p < tn) (hc : 65 ≤ tf p ∧ tf p ≤ 90) (hd : due ≠ 2) (hpl : ¬ (due = 0 ∧ pl (tf p - 65).toNat = -9)) : RES.1 = p := by
  obtain ⟨b, l, h1, h2, h3⟩ := H
  have k := tk_letter (tn := tn) hc
  rw [J_lf h1 hp h k.1 hd (by rw [k.2.1]; exact hpl)]
theorem C_n2 {v : Int} (H : nmC RES tn tf due la p z f g lu pl) (hp : p ≤ 200) (h : p < tn) (hz : 0 ≤ z ∧ z < 256) (hc : 48 ≤ tf p ∧ tf p ≤ 57) (hv : v = nval tf p (tkS tn tf p)) (hv2 : 0 ≤ v ∧ v ≤ 255) (hd : due = 2) : nmC RES tn tf 0 la (gapE tn tf 0 (tkE tn tf p)) (z + 1) (va_up f z.toNat v) (va_up g z.toNat p) lu pl := by
  obtain ⟨b, l, h1, h2, h3⟩ := H
  have k := tk_digit (tn := tn) hc
  rw [← tkS_d (tn := tn) hc, ← hv] at k
  have j := J_n2 h1 hp h (by rw [k.2.2, k.2.1, if_neg (by omega)]) hd
  rw [k.2.1] at j
  exact ⟨_, _, j, rl_num hz.1 hz.2 hv2 h2, agr_up hz.1 h3⟩
theorem C_nf {v : Int} (H : nmC RES tn tf due la p z f g lu pl) (hp : p ≤ 200) (h : p < tn) (hc : 48 ≤ tf p ∧ tf p ≤ 57) (hv : v = nval tf p (tkS tn tf p)) (hd : due ≠ 2 ∨ v = -9) : RES.1 = p := by
  obtain ⟨b, l, h1, h2, h3⟩ := H
  have k := tk_digit (tn := tn) hc
  rw [← tkS_d (tn := tn) hc, ← hv] at k
  by_cases q : v = -9
  · have e : tkK tn tf p = 5 := by rw [k.2.2, k.2.1, if_pos q]
    rw [J_x h1 hp h (by omega) (by omega) (by omega) (by omega)]
  · rw [J_nf h1 hp h (by rw [k.2.2, k.2.1, if_neg q]) (by omega)]
theorem C_w {v : Int} (H : nmC RES tn tf due la p z f g lu pl) (hp : p ≤ 200) (h : p < tn) (hz : 0 ≤ z ∧ z < 256) (hc : 97 ≤ tf p ∧ tf p ≤ 122) (hv : v = wdx tf p (tkS tn tf p)) (hv2 : v ≠ -9) (hd : due = 0) : (v = 16 → nmC RES tn tf 2 la (gapE tn tf 0 (tkE tn tf p)) z f g lu pl) ∧ (v ≠ 16 → hsn v → nmC RES tn tf 2 la (gapE tn tf 0 (tkE tn tf p)) (z + 1) (va_up f z.toNat v) (va_up g z.toNat p) lu pl) ∧ (v ≠ 16 → ¬ hsn v → nmC RES tn tf 0 la (gapE tn tf 0 (tkE tn tf p)) (z + 1) (va_up f z.toNat v) (va_up g z.toNat p) lu pl) := by
  obtain ⟨b, l, h1, h2, h3⟩ := H
  have k := tk_small (tn := tn) hc
  have r := wdx_rg tf p (tkS tn tf p)
  rw [← hv] at r
  rw [← tkS_w (tn := tn) hc, ← hv] at k
  have kk : tkK tn tf p = 1 := by rw [k.2.2, k.2.1, if_neg hv2]
  refine ⟨fun q => ?_, fun q q2 => ?_, fun q q2 => ?_⟩
  · exact ⟨b, l, J_wb h1 hp h kk hd (by rw [k.2.1]; exact q), h2, h3⟩
  · have j := J_wn h1 hp h kk hd (by rw [k.2.1]; exact q) (by rw [k.2.1]; exact q2)
    rw [k.2.1] at j
    exact ⟨_, _, j, rl_num hz.1 hz.2 (by omega) h2, agr_up hz.1 h3⟩
  · have j := J_w0 h1 hp h kk hd (by rw [k.2.1]; exact q) (by rw [k.2.1]; exact q2)
    rw [k.2.1] at j
    exact ⟨_, _, j, rl_num hz.1 hz.2 (by omega) h2, agr_up hz.1 h3⟩
theorem C_wf {v : Int} (H : nmC RES tn tf due la p z f g lu pl) (hp : p ≤ 200) (h : p < tn) (hc : 97 ≤ tf p ∧ tf p ≤ 122) (hv : v = wdx tf p (tkS tn tf p)) (hd : due ≠ 0 ∨ v = -9) : RES.1 = p := by
  obtain ⟨b, l, h1, h2, h3⟩ := H
  have k := tk_small (tn := tn) hc
  rw [← tkS_w (tn := tn) hc, ← hv] at k
  by_cases q : v = -9
  · have e : tkK tn tf p = 5 := by rw [k.2.2, k.2.1, if_pos q]
    rw [J_x h1 hp h (by omega) (by omega) (by omega) (by omega)]
  · rw [J_wf h1 hp h (by rw [k.2.2, k.2.1, if_neg q]) (by omega)]
theorem C_x (H : nmC RES tn tf due la p z f g lu pl) (hp : p ≤ 200) (h : p < tn) (hs : tkS tn tf p = 0) : RES.1 = p := by
  obtain ⟨b, l, h1, h2, h3⟩ := H
  have e := tkS_0 h hs
  rw [J_x h1 hp h (by omega) (by omega) (by omega) (by omega)]
theorem C_end (H : nmC RES tn tf due la p z f g lu pl) (hp : p ≤ 200) (h : tn ≤ p) (hd : due ≠ 0 ∨ z = 0) : RES.1 = tn := by
  obtain ⟨b, l, h1, h2, h3⟩ := H
  rw [J_end h1 hp h, if_pos hd]
end NMC
/-- the answer of a maker, and its draft -/
def nrR (N : PR) (r n : Int) (f g : Nat → Int) : Prop := N.1 = r ∧ (r = -9 → N.2.1 = n ∧ agr n f N.2.2.1 ∧ agr n g N.2.2.2)
theorem nr_f {tn : Int} {tf : Int → Int} {r n : Int} {f g : Nat → Int} (h : (nmE tn tf).1 = r) (hr : 0 ≤ r) : nrR (namE tn tf) r n f g := by
  unfold namE
  rw [if_neg (by omega)]
  exact ⟨h, fun q => by omega⟩
/-- the class's last way through the letters -/
def ppI (RS : Int × (Nat → Int)) (L : Nat → Int) (j z : Int) (f g lu pl : Nat → Int) : Prop := ∃ (k : Nat) (b : Nat → Int), 201 ≤ (k : Int) + j ∧ rsv k j z b L pl = RS ∧ (∀ i : Nat, (i : Int) < j → f i = b i) ∧ (∀ i : Nat, j ≤ i → (i : Int) < z → (b i < 0 → f i = 0 ∧ lu i = -1 - b i) ∧ (0 ≤ b i → f i = b i ∧ lu i = -9)) ∧ agr z g L ∧ ∀ i : Nat, (i : Int) < z → -26 ≤ b i ∧ b i ≤ 255
section PP
variable {RS : Int × (Nat → Int)} {L : Nat → Int} {j z : Int} {f g lu pl : Nat → Int}
theorem pp_end (H : ppI RS L j z f g lu pl) (hj : j ≤ 200) (h : z ≤ j) : RS.1 = -9 ∧ agr z f RS.2 := by
  obtain ⟨k, b, h1, h2, h3, h4, h5, h6⟩ := H
  rw [show k = k - 1 + 1 by omega, rsv, if_neg (by omega)] at h2
  subst h2
  exact ⟨rfl, fun i hi => h3 i (by omega)⟩
theorem pp_n (H : ppI RS L j z f g lu pl) (h0 : 0 ≤ j) (hj : j ≤ 200) (h : j < z) (hl : lu j.toNat < 0) : ppI RS L (j + 1) z f g lu pl := by
  obtain ⟨k, b, h1, h2, h3, h4, h5, h6⟩ := H
  have q := h4 j.toNat (by omega) (by omega)
  have q6 := h6 j.toNat (by omega)
  have hb : 0 ≤ b j.toNat := by
    by_cases z9 : 0 ≤ b j.toNat
    · exact z9
    · have := (q.1 (by omega)).2
      omega
  rw [show k = k - 1 + 1 by omega, rsv, if_pos h, if_neg (by omega)] at h2
  refine ⟨k - 1, b, by omega, h2, fun i hi => ?_, fun i hi => h4 i (by omega), h5, h6⟩
  by_cases e : (i : Int) = j
  · rw [show i = j.toNat by omega]
    exact (q.2 hb).1
  · exact h3 i (by omega)
theorem pp_l (H : ppI RS L j z f g lu pl) (h0 : 0 ≤ j) (h : j < z) (hl : 0 ≤ lu j.toNat) : ∃ (k : Nat) (b : Nat → Int), 201 ≤ (k : Int) + j ∧ rsv k j z b L pl = RS ∧ b j.toNat < 0 ∧ -1 - b j.toNat = lu j.toNat := by
  obtain ⟨k, b, h1, h2, h3, h4, h5, h6⟩ := H
  have q := h4 j.toNat (by omega) (by omega)
  by_cases z9 : 0 ≤ b j.toNat
  · have := (q.2 z9).2
    omega
  · exact ⟨k, b, h1, h2, by omega, (q.1 (by omega)).2.symm⟩
theorem pp_f (H : ppI RS L j z f g lu pl) (h0 : 0 ≤ j) (hj : j ≤ 200) (h : j < z) (hl : 0 ≤ lu j.toNat) (hp : pl (lu j.toNat).toNat = -9) : RS.1 = g j.toNat := by
  have H2 := H
  obtain ⟨k, b, h1, h2, h3, h4⟩ := pp_l H h0 h hl
  rw [show k = k - 1 + 1 by omega, rsv, if_pos h, if_pos h3, h4, if_pos hp] at h2
  subst h2
  obtain ⟨_, _, _, _, _, _, h5, _⟩ := H2
  exact (h5 j.toNat (by omega)).symm
theorem pp_y (H : ppI RS L j z f g lu pl) (h0 : 0 ≤ j) (hj : j ≤ 200) (h : j < z) (hl : 0 ≤ lu j.toNat) (hp : pl (lu j.toNat).toNat ≠ -9) (hr : 0 ≤ pl (lu j.toNat).toNat ∧ pl (lu j.toNat).toNat ≤ 255) : ppI RS L (j + 1) z (va_up f j.toNat (pl (lu j.toNat).toNat)) g lu pl := by
  obtain ⟨k, b, h1, h2, h3, h4, h5, h6⟩ := H
  have q := h4 j.toNat (by omega) (by omega)
  have hb : b j.toNat < 0 ∧ -1 - b j.toNat = lu j.toNat := by
    by_cases z9 : 0 ≤ b j.toNat
    · have := (q.2 z9).2
      omega
    · exact ⟨by omega, (q.1 (by omega)).2.symm⟩
  rw [show k = k - 1 + 1 by omega, rsv, if_pos h, if_pos hb.1, hb.2, if_neg hp] at h2
  refine ⟨k - 1, _, by omega, h2, fun i hi => ?_, fun i hi hi2 => ?_, h5, fun i hi => ?_⟩
  · unfold va_up
    split
    · rfl
    · exact h3 i (by omega)
  · rw [up_ne (by omega), up_ne (by omega)]
    exact h4 i (by omega) hi2
  · by_cases e : i = j.toNat
    · subst e
      rw [up_eq]
      omega
    · rw [up_ne e]
      exact h6 i hi
end PP
