/-! texts with names: tokens, items -/
def sqf (tn : Int) (tf : Int → Int) (lo hi : Int) : Nat → Int → Int
  | 0, i => i
  | k + 1, i => if i < tn ∧ lo ≤ tf i ∧ tf i ≤ hi then sqf tn tf lo hi k (i + 1) else i
def sqE (tn : Int) (tf : Int → Int) (lo hi i : Int) : Int := sqf tn tf lo hi (tn - i).toNat i
section SQ
variable {tn lo hi : Int} {tf : Int → Int}
theorem sq_on {i : Int} (h : i < tn) (h1 : lo ≤ tf i) (h2 : tf i ≤ hi) : sqE tn tf lo hi i = sqE tn tf lo hi (i + 1) := by
  unfold sqE
  rw [show (tn - i).toNat = (tn - (i + 1)).toNat + 1 by omega, sqf, if_pos ⟨h, h1, h2⟩]
theorem sq_st {i : Int} (h : ¬ (i < tn ∧ lo ≤ tf i ∧ tf i ≤ hi)) : sqE tn tf lo hi i = i := by
  unfold sqE
  cases (tn - i).toNat with
  | zero => rfl
  | succ k => rw [sqf, if_neg h]
theorem sq_le (n : Nat) : ∀ i : Int, (tn - i).toNat = n → i ≤ tn → i ≤ sqE tn tf lo hi i ∧ sqE tn tf lo hi i ≤ tn := by
  induction n with
  | zero =>
    intro i h1 h2
    rw [sq_st (by omega)]
    omega
  | succ n ih =>
    intro i h1 h2
    by_cases q : i < tn ∧ lo ≤ tf i ∧ tf i ≤ hi
    · rw [sq_on q.1 q.2.1 q.2.2]
      have := ih (i + 1) (by omega) (by omega)
      omega
    · rw [sq_st q]
      omega
theorem sq_rg {i : Int} (h : i ≤ tn) : i ≤ sqE tn tf lo hi i ∧ sqE tn tf lo hi i ≤ tn := sq_le _ i rfl h
theorem sq_in (n : Nat) : ∀ i : Int, (tn - i).toNat = n → ∀ j : Int, i ≤ j → j < sqE tn tf lo hi i → j < tn ∧ lo ≤ tf j ∧ tf j ≤ hi := by
  induction n with
  | zero =>
    intro i h1 j h2 h3
    rw [sq_st (by omega)] at h3
    omega
  | succ n ih =>
    intro i h1 j h2 h3
    by_cases q : i < tn ∧ lo ≤ tf i ∧ tf i ≤ hi
    · by_cases e : j = i
      · subst e
        exact q
      · rw [sq_on q.1 q.2.1 q.2.2] at h3
        exact ih (i + 1) (by omega) j (by omega) h3
    · rw [sq_st q] at h3
      omega
theorem sq_cg {tf' : Int → Int} (h : ∀ j : Int, 0 ≤ j → j < tn → tf j = tf' j) (n : Nat) : ∀ i : Int, (tn - i).toNat = n → 0 ≤ i → sqE tn tf lo hi i = sqE tn tf' lo hi i := by
  induction n with
  | zero =>
    intro i h1 h2
    rw [sq_st (by omega), sq_st (by omega)]
  | succ n ih =>
    intro i h1 h2
    have e := h i h2 (by omega)
    by_cases q : i < tn ∧ lo ≤ tf i ∧ tf i ≤ hi
    · rw [sq_on q.1 q.2.1 q.2.2, sq_on q.1 (by rw [← e]; exact q.2.1) (by rw [← e]; exact q.2.2)]
      exact ih (i + 1) (by omega) (by omega)
    · rw [sq_st q, sq_st (by rw [← e]; exact q)]
end SQ
def nval (tf : Int → Int) (p len : Int) : Int := if 3 < len ∨ (1 < len ∧ tf p = 48) then -9 else
  if len = 1 then tf p - 48 else if len = 2 then 10 * (tf p - 48) + (tf (p + 1) - 48) else
  if 255 < 10 * (10 * (tf p - 48) + (tf (p + 1) - 48)) + (tf (p + 2) - 48) then -9 else 10 * (10 * (tf p - 48) + (tf (p + 1) - 48)) + (tf (p + 2) - 48)
def spl (k : Nat) : Int := (jsB.getD k 0).toInt
def pch (tf : Int → Int) (p len : Int) (i : Nat) : Int := if (i : Int) < len then tf (p + i) else 32
def wdm (tf : Int → Int) (p len : Int) (w : Nat) : Prop := ∀ i : Nat, i < 5 → spl (5 * w + i) = pch tf p len i
noncomputable def wdx (tf : Int → Int) (p len : Int) : Int := if 5 < len then -9 else fst1 (wdm tf p len) 17
theorem wdx_rg (tf : Int → Int) (p len : Int) : wdx tf p len = -9 ∨ (0 ≤ wdx tf p len ∧ wdx tf p len ≤ 16) := by
  unfold wdx
  split
  · left; rfl
  · rcases fst1_rg (P := wdm tf p len) 17 with q | q
    · left; exact q.1
    · right; omega
def tkE (tn : Int) (tf : Int → Int) (p : Int) : Int := if 97 ≤ tf p ∧ tf p ≤ 122 then sqE tn tf 97 122 p else if 48 ≤ tf p ∧ tf p ≤ 57 then sqE tn tf 48 57 p else p + 1
noncomputable def tkV (tn : Int) (tf : Int → Int) (p : Int) : Int := if 97 ≤ tf p ∧ tf p ≤ 122 then wdx tf p (sqE tn tf 97 122 p - p) else if 48 ≤ tf p ∧ tf p ≤ 57 then nval tf p (sqE tn tf 48 57 p - p) else tf p - 65
noncomputable def tkK (tn : Int) (tf : Int → Int) (p : Int) : Int := if 97 ≤ tf p ∧ tf p ≤ 122 then (if tkV tn tf p = -9 then 5 else 1) else if 48 ≤ tf p ∧ tf p ≤ 57 then (if tkV tn tf p = -9 then 5 else 3) else if 65 ≤ tf p ∧ tf p ≤ 90 then 2 else if tf p = 58 then 4 else 5
theorem tkE_rg {tn : Int} {tf : Int → Int} {p : Int} (h : p < tn) : p + 1 ≤ tkE tn tf p ∧ tkE tn tf p ≤ tn := by
  unfold tkE
  split
  · rename_i q
    rw [sq_on h q.1 q.2]
    exact sq_rg (by omega)
  · split
    · rename_i q
      rw [sq_on h q.1 q.2]
      exact sq_rg (by omega)
    · omega
def hsn (w : Int) : Prop := (3 ≤ w ∧ w ≤ 7) ∨ (11 ≤ w ∧ w ≤ 15)
abbrev NR : Type := Int × Int × (Nat → Int) × (Nat → Int) × (Nat → Int)
noncomputable def nms (tn : Int) (tf : Int → Int) : Nat → Int → Int → Int → Int → (Nat → Int) → (Nat → Int) → (Nat → Int) → NR
  | 0, _, _, _, z, b, l, pl => (-9, z, b, l, pl)
  | k + 1, due, la, p, z, b, l, pl => if tn ≤ p then (if due ≠ 0 ∨ z = 0 then tn else -9, z, b, l, pl) else
    if tkK tn tf p = 4 then (if due = 1 ∧ p = la + 1 then nms tn tf k 0 la (gapE tn tf 0 (tkE tn tf p)) z b l pl else (p, z, b, l, pl)) else
    if tkK tn tf p = 2 then (if due = 2 then nms tn tf k 0 la (gapE tn tf 0 (tkE tn tf p)) (z + 1) (va_up b z.toNat (-1 - tkV tn tf p)) (va_up l z.toNat p) pl else if due = 0 ∧ pl (tkV tn tf p).toNat = -9 then nms tn tf k 1 p (gapE tn tf 0 (tkE tn tf p)) z b l (va_up pl (tkV tn tf p).toNat z) else (p, z, b, l, pl)) else
    if tkK tn tf p = 3 then (if due = 2 then nms tn tf k 0 la (gapE tn tf 0 (tkE tn tf p)) (z + 1) (va_up b z.toNat (tkV tn tf p)) (va_up l z.toNat p) pl else (p, z, b, l, pl)) else
    if tkK tn tf p = 1 then (if due = 0 then (if tkV tn tf p = 16 then nms tn tf k 2 la (gapE tn tf 0 (tkE tn tf p)) z b l pl else nms tn tf k (@ite Int (hsn (tkV tn tf p)) (Classical.propDecidable _) 2 0) la (gapE tn tf 0 (tkE tn tf p)) (z + 1) (va_up b z.toNat (tkV tn tf p)) (va_up l z.toNat p) pl) else (p, z, b, l, pl)) else (p, z, b, l, pl)
def nmJ (RES : NR) (tn : Int) (tf : Int → Int) (due la p z : Int) (b l pl : Nat → Int) : Prop := ∃ k : Nat, 201 ≤ (k : Int) + p ∧ nms tn tf k due la p z b l pl = RES
section NMJ
variable {RES : NR} {tn : Int} {tf : Int → Int} {due la p z : Int} {b l pl : Nat → Int}
theorem nmJ_s (H : nmJ RES tn tf due la p z b l pl) (hp : p ≤ 200) : ∃ k : Nat, 201 ≤ (k : Int) + 1 + p ∧ nms tn tf (k + 1) due la p z b l pl = RES := by
  obtain ⟨k, h1, h2⟩ := H
  exact ⟨k - 1, by omega, by rw [show k - 1 + 1 = k by omega]; exact h2⟩
theorem nm_g (h : p < tn) : p + 1 ≤ gapE tn tf 0 (tkE tn tf p) := by
  have a := tkE_rg (tf := tf) h
  have b := gap_rg (tn := tn) (tf := tf) (r := 0) (i := tkE tn tf p) a.2
  omega
theorem J_end (H : nmJ RES tn tf due la p z b l pl) (hp : p ≤ 200) (h : tn ≤ p) : RES = (if due ≠ 0 ∨ z = 0 then tn else -9, z, b, l, pl) := by
  obtain ⟨k, h1, h2⟩ := nmJ_s H hp
  rw [nms, if_pos h] at h2
  exact h2.symm
theorem J_c (H : nmJ RES tn tf due la p z b l pl) (hp : p ≤ 200) (h : p < tn) (hK : tkK tn tf p = 4) (hd : due = 1 ∧ p = la + 1) : nmJ RES tn tf 0 la (gapE tn tf 0 (tkE tn tf p)) z b l pl := by
  obtain ⟨k, h1, h2⟩ := nmJ_s H hp
  rw [nms, if_neg (by omega), if_pos hK, if_pos hd] at h2
  exact ⟨k, by have := nm_g (tf := tf) h; omega, h2⟩
theorem J_cf (H : nmJ RES tn tf due la p z b l pl) (hp : p ≤ 200) (h : p < tn) (hK : tkK tn tf p = 4) (hd : ¬ (due = 1 ∧ p = la + 1)) : RES = (p, z, b, l, pl) := by
  obtain ⟨k, h1, h2⟩ := nmJ_s H hp
  rw [nms, if_neg (by omega), if_pos hK, if_neg hd] at h2
  exact h2.symm
theorem J_l2 (H : nmJ RES tn tf due la p z b l pl) (hp : p ≤ 200) (h : p < tn) (hK : tkK tn tf p = 2) (hd : due = 2) : nmJ RES tn tf 0 la (gapE tn tf 0 (tkE tn tf p)) (z + 1) (va_up b z.toNat (-1 - tkV tn tf p)) (va_up l z.toNat p) pl := by
  obtain ⟨k, h1, h2⟩ := nmJ_s H hp
  rw [nms, if_neg (by omega), if_neg (by omega), if_pos hK, if_pos hd] at h2
  exact ⟨k, by have := nm_g (tf := tf) h; omega, h2⟩
theorem J_l0 (H : nmJ RES tn tf due la p z b l pl) (hp : p ≤ 200) (h : p < tn) (hK : tkK tn tf p = 2) (hd : due = 0) (hpl : pl (tkV tn tf p).toNat = -9) : nmJ RES tn tf 1 p (gapE tn tf 0 (tkE tn tf p)) z b l (va_up pl (tkV tn tf p).toNat z) := by
  obtain ⟨k, h1, h2⟩ := nmJ_s H hp
  rw [nms, if_neg (by omega), if_neg (by omega), if_pos hK, if_neg (by omega), if_pos ⟨hd, hpl⟩] at h2
  exact ⟨k, by have := nm_g (tf := tf) h; omega, h2⟩
theorem J_lf (H : nmJ RES tn tf due la p z b l pl) (hp : p ≤ 200) (h : p < tn) (hK : tkK tn tf p = 2) (hd : due ≠ 2) (hpl : ¬ (due = 0 ∧ pl (tkV tn tf p).toNat = -9)) : RES = (p, z, b, l, pl) := by
  obtain ⟨k, h1, h2⟩ := nmJ_s H hp
  rw [nms, if_neg (by omega), if_neg (by omega), if_pos hK, if_neg hd, if_neg hpl] at h2
  exact h2.symm
theorem J_n2 (H : nmJ RES tn tf due la p z b l pl) (hp : p ≤ 200) (h : p < tn) (hK : tkK tn tf p = 3) (hd : due = 2) : nmJ RES tn tf 0 la (gapE tn tf 0 (tkE tn tf p)) (z + 1) (va_up b z.toNat (tkV tn tf p)) (va_up l z.toNat p) pl := by
  obtain ⟨k, h1, h2⟩ := nmJ_s H hp
  rw [nms, if_neg (by omega), if_neg (by omega), if_neg (by omega), if_pos hK, if_pos hd] at h2
  exact ⟨k, by have := nm_g (tf := tf) h; omega, h2⟩
theorem J_nf (H : nmJ RES tn tf due la p z b l pl) (hp : p ≤ 200) (h : p < tn) (hK : tkK tn tf p = 3) (hd : due ≠ 2) : RES = (p, z, b, l, pl) := by
  obtain ⟨k, h1, h2⟩ := nmJ_s H hp
  rw [nms, if_neg (by omega), if_neg (by omega), if_neg (by omega), if_pos hK, if_neg hd] at h2
  exact h2.symm
theorem J_wb (H : nmJ RES tn tf due la p z b l pl) (hp : p ≤ 200) (h : p < tn) (hK : tkK tn tf p = 1) (hd : due = 0) (hV : tkV tn tf p = 16) : nmJ RES tn tf 2 la (gapE tn tf 0 (tkE tn tf p)) z b l pl := by
  obtain ⟨k, h1, h2⟩ := nmJ_s H hp
  rw [nms, if_neg (by omega), if_neg (by omega), if_neg (by omega), if_neg (by omega), if_pos hK, if_pos hd, if_pos hV] at h2
  exact ⟨k, by have := nm_g (tf := tf) h; omega, h2⟩
theorem J_wn (H : nmJ RES tn tf due la p z b l pl) (hp : p ≤ 200) (h : p < tn) (hK : tkK tn tf p = 1) (hd : due = 0) (hV : tkV tn tf p ≠ 16) (hn : hsn (tkV tn tf p)) : nmJ RES tn tf 2 la (gapE tn tf 0 (tkE tn tf p)) (z + 1) (va_up b z.toNat (tkV tn tf p)) (va_up l z.toNat p) pl := by
  obtain ⟨k, h1, h2⟩ := nmJ_s H hp
  rw [nms, if_neg (by omega), if_neg (by omega), if_neg (by omega), if_neg (by omega), if_pos hK, if_pos hd, if_neg hV, if_pos hn] at h2
  exact ⟨k, by have := nm_g (tf := tf) h; omega, h2⟩
theorem J_w0 (H : nmJ RES tn tf due la p z b l pl) (hp : p ≤ 200) (h : p < tn) (hK : tkK tn tf p = 1) (hd : due = 0) (hV : tkV tn tf p ≠ 16) (hn : ¬ hsn (tkV tn tf p)) : nmJ RES tn tf 0 la (gapE tn tf 0 (tkE tn tf p)) (z + 1) (va_up b z.toNat (tkV tn tf p)) (va_up l z.toNat p) pl := by
  obtain ⟨k, h1, h2⟩ := nmJ_s H hp
  rw [nms, if_neg (by omega), if_neg (by omega), if_neg (by omega), if_neg (by omega), if_pos hK, if_pos hd, if_neg hV, if_neg hn] at h2
  exact ⟨k, by have := nm_g (tf := tf) h; omega, h2⟩
theorem J_wf (H : nmJ RES tn tf due la p z b l pl) (hp : p ≤ 200) (h : p < tn) (hK : tkK tn tf p = 1) (hd : due ≠ 0) : RES = (p, z, b, l, pl) := by
  obtain ⟨k, h1, h2⟩ := nmJ_s H hp
  rw [nms, if_neg (by omega), if_neg (by omega), if_neg (by omega), if_neg (by omega), if_pos hK, if_neg hd] at h2
  exact h2.symm
theorem J_x (H : nmJ RES tn tf due la p z b l pl) (hp : p ≤ 200) (h : p < tn) (h1 : tkK tn tf p ≠ 1) (h2 : tkK tn tf p ≠ 2) (h3 : tkK tn tf p ≠ 3) (h4 : tkK tn tf p ≠ 4) : RES = (p, z, b, l, pl) := by
  obtain ⟨k, e1, e2⟩ := nmJ_s H hp
  rw [nms, if_neg (by omega), if_neg h4, if_neg h2, if_neg h3, if_neg h1] at e2
  exact e2.symm
end NMJ
/-- letters become places -/
def rsv : Nat → Int → Int → (Nat → Int) → (Nat → Int) → (Nat → Int) → Int × (Nat → Int)
  | 0, _, _, b, _, _ => (-9, b)
  | f + 1, k, z, b, l, pl => if k < z then (if b k.toNat < 0 then (if pl (-1 - b k.toNat).toNat = -9 then (l k.toNat, b) else rsv f (k + 1) z (va_up b k.toNat (pl (-1 - b k.toNat).toNat)) l pl) else rsv f (k + 1) z b l pl) else (-9, b)
noncomputable def nmE (tn : Int) (tf : Int → Int) : NR := nms tn tf 201 0 (-9) (gapE tn tf 0 0) 0 (fun _ => 0) (fun _ => 0) (fun _ => -9)
/-- a text with names: FAULT or -9, how many bytes, bytes, led -/
noncomputable def namE (tn : Int) (tf : Int → Int) : PR := if (nmE tn tf).1 = -9 then ((rsv 201 0 (nmE tn tf).2.1 (nmE tn tf).2.2.1 (nmE tn tf).2.2.2.1 (nmE tn tf).2.2.2.2).1, (nmE tn tf).2.1, (rsv 201 0 (nmE tn tf).2.1 (nmE tn tf).2.2.1 (nmE tn tf).2.2.2.1 (nmE tn tf).2.2.2.2).2, (nmE tn tf).2.2.2.1) else ((nmE tn tf).1, (nmE tn tf).2.1, (nmE tn tf).2.2.1, (nmE tn tf).2.2.2.1)
theorem nmJ_0 {tn : Int} {tf : Int → Int} (h : 0 ≤ tn) : nmJ (nmE tn tf) tn tf 0 (-9) (gapE tn tf 0 0) 0 (fun _ => 0) (fun _ => 0) (fun _ => -9) := ⟨201, by have := gap_rg (tn := tn) (tf := tf) (r := 0) (i := 0) h; omega, rfl⟩
def tkS (tn : Int) (tf : Int → Int) (p : Int) : Int := if 97 ≤ tf p ∧ tf p ≤ 122 then sqE tn tf 97 122 p - p else if 48 ≤ tf p ∧ tf p ≤ 57 then sqE tn tf 48 57 p - p else if (65 ≤ tf p ∧ tf p ≤ 90) ∨ tf p = 58 then 1 else 0
section NV
variable {tf : Int → Int} {p len : Int}
theorem nval_1 : nval tf p 1 = tf p - 48 := by
  unfold nval
  rw [if_neg (by omega), if_pos rfl]
theorem nval_2 (h : tf p ≠ 48) : nval tf p 2 = 10 * (tf p - 48) + (tf (p + 1) - 48) := by
  unfold nval
  rw [if_neg (by omega), if_neg (by decide), if_pos rfl]
theorem nval_3a (h : tf p ≠ 48) (h2 : 10 * (10 * (tf p - 48) + (tf (p + 1) - 48)) + (tf (p + 2) - 48) ≤ 255) : nval tf p 3 = 10 * (10 * (tf p - 48) + (tf (p + 1) - 48)) + (tf (p + 2) - 48) := by
  unfold nval
  rw [if_neg (by omega), if_neg (by decide), if_neg (by decide), if_neg (by omega)]
theorem nval_3b (h : tf p ≠ 48) (h2 : 255 < 10 * (10 * (tf p - 48) + (tf (p + 1) - 48)) + (tf (p + 2) - 48)) : nval tf p 3 = -9 := by
  unfold nval
  rw [if_neg (by omega), if_neg (by decide), if_neg (by decide), if_pos h2]
theorem nval_z (h : 1 < len) (h2 : tf p = 48) : nval tf p len = -9 := by
  unfold nval
  rw [if_pos (Or.inr ⟨h, h2⟩)]
theorem nval_4 (h : 3 < len) : nval tf p len = -9 := by
  unfold nval
  rw [if_pos (Or.inl h)]
end NV
/-- how far a word's row agrees -/
def wA (tf : Int → Int) (p len w al j : Int) : Prop := (al = j ∧ ∀ i : Nat, (i : Int) < j → spl (5 * w.toNat + i) = pch tf p len i) ∨ (al < j ∧ ¬ wdm tf p len w.toNat)
section WA
variable {tf : Int → Int} {p len w al j : Int}
theorem wA_0 : wA tf p len w 0 0 := Or.inl ⟨rfl, fun i hi => by omega⟩
theorem wA_y (H : wA tf p len w al j) (h0 : 0 ≤ j) (ha : al = j) (h : spl (5 * w.toNat + j.toNat) = pch tf p len j.toNat) : wA tf p len w (al + 1) (j + 1) := by
  rcases H with H | H
  · refine Or.inl ⟨by omega, fun i hi => ?_⟩
    by_cases e : i = j.toNat
    · rw [e]; exact h
    · exact H.2 i (by omega)
  · omega
theorem wA_n (ha : al = j) (h0 : 0 ≤ j) (h5 : j < 5) (h : spl (5 * w.toNat + j.toNat) ≠ pch tf p len j.toNat) : wA tf p len w al (j + 1) := Or.inr ⟨by omega, fun z => h (z j.toNat (by omega))⟩
theorem wA_5 (H : wA tf p len w al j) (hj : j ≤ 5) (ha : al = 5) : wdm tf p len w.toNat := by
  rcases H with H | H
  · exact fun i hi => H.2 i (by omega)
  · omega
theorem wA_x (H : wA tf p len w al j) (hx : j = 5 ∨ al ≠ j) (ha : al ≠ 5) : ¬ wdm tf p len w.toNat := by
  rcases H with H | H
  · omega
  · exact H.2
end WA
