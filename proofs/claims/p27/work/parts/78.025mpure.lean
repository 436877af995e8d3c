/-! what a run doesn't hang on: bytes beyond the text's end; what lay on the tape before -/
section MPU
variable {tn : Int} {tf tf' : Int → Int} {a x p e d t c : Int} {m ou ol ou' ol' : Nat → Int}
theorem mstpK_tf (ht : 0 ≤ t) (h : ∀ j : Int, 0 ≤ j → j < tn → tf j = tf' j) : ∀ K : Nat, mstpK K tn tf a x p e d t c m ou ol = mstpK K tn tf' a x p e d t c m ou ol
  | 0 => rfl
  | 1 => by
    show (if t < tn then (tf t, x, (p + 1) % 256, e, d + 1, t + 1, c, m, ou, ol) else (0, x, (p + 1) % 256, 1, d + 1, t, c, m, ou, ol)) = if t < tn then (tf' t, x, (p + 1) % 256, e, d + 1, t + 1, c, m, ou, ol) else (0, x, (p + 1) % 256, 1, d + 1, t, c, m, ou, ol)
    by_cases z : t < tn
    · rw [if_pos z, if_pos z, h t ht z]
    · rw [if_neg z, if_neg z]
  | 2 => rfl
  | 3 => rfl
  | 4 => rfl
  | 5 => rfl
  | 6 => rfl
  | 7 => rfl
  | 8 => rfl
  | 9 => rfl
  | 10 => rfl
  | 11 => rfl
  | 12 => rfl
  | 13 => rfl
  | 14 => rfl
  | n + 15 => rfl
theorem mstpK_t : ∀ K : Nat, t ≤ (mstpK K tn tf a x p e d t c m ou ol).2.2.2.2.2.1
  | 0 => Int.le_refl _
  | 1 => by
    show t ≤ (if t < tn then (tf t, x, (p + 1) % 256, e, d + 1, t + 1, c, m, ou, ol) else (0, x, (p + 1) % 256, 1, d + 1, t, c, m, ou, ol) : MS).2.2.2.2.2.1
    by_cases z : t < tn
    · rw [if_pos z]
      show t ≤ t + 1
      omega
    · rw [if_neg z]
      exact Int.le_refl _
  | 2 => Int.le_refl _
  | 3 => Int.le_refl _
  | 4 => Int.le_refl _
  | 5 => Int.le_refl _
  | 6 => Int.le_refl _
  | 7 => Int.le_refl _
  | 8 => Int.le_refl _
  | 9 => Int.le_refl _
  | 10 => Int.le_refl _
  | 11 => Int.le_refl _
  | 12 => by
    show t ≤ (if a = 0 then _ else _ : MS).2.2.2.2.2.1
    split <;> exact Int.le_refl _
  | 13 => by
    show t ≤ (if e = 1 then _ else _ : MS).2.2.2.2.2.1
    split <;> exact Int.le_refl _
  | 14 => Int.le_refl _
  | n + 15 => by
    show t ≤ (if 128 ≤ a then _ else _ : MS).2.2.2.2.2.1
    split <;> exact Int.le_refl _
theorem mgo_tf (h : ∀ j : Int, 0 ≤ j → j < tn → tf j = tf' j) : ∀ (k : Nat) (s : MS), 0 ≤ s.2.2.2.2.2.1 → mgo tn tf k s = mgo tn tf' k s
  | 0, s, _ => rfl
  | k + 1, (a, x, p, e, d, t, c, m, ou, ol), hs => by
    have hs : 0 ≤ t := hs
    have e1 : mstp tn tf a x p e d t c m ou ol = mstp tn tf' a x p e d t c m ou ol := mstpK_tf hs h _
    by_cases q : hcM p c m
    · rw [mgo_hc q, mgo_hc q]
    · rw [mgo_no q, mgo_no q, e1]
      by_cases z : m p.toNat = 0
      · rw [if_pos z, if_pos z]
      · rw [if_neg z, if_neg z]
        have lt : t ≤ (mstp tn tf' a x p e d t c m ou ol).2.2.2.2.2.1 := mstpK_t _
        exact mgo_tf h k _ (by omega)
theorem mrun_tf {n : Int} {f : Nat → Int} (h : ∀ j : Int, 0 ≤ j → j < tn → tf j = tf' j) : mrun tn tf n f ou ol = mrun tn tf' n f ou ol := mgo_tf h _ _ (Int.le_refl 0)
/-- the same but for what lies on the tape beyond its end -/
def OuR (s s' : MS) : Prop := ∃ (a x p e d t c : Int) (m ou ol ou' ol' : Nat → Int), s = (a, x, p, e, d, t, c, m, ou, ol) ∧ s' = (a, x, p, e, d, t, c, m, ou', ol') ∧ 0 ≤ c ∧ (∀ j : Nat, (j : Int) < c → ou j = ou' j) ∧ ∀ j : Nat, (j : Int) < c → ol j = ol' j
theorem upc {f f' : Nat → Int} {v : Int} (hc : 0 ≤ c) (h : ∀ j : Nat, (j : Int) < c → f j = f' j) : ∀ j : Nat, (j : Int) < c + 1 → va_up f c.toNat v j = va_up f' c.toNat v j := by
  intro j hj
  by_cases q : j = c.toNat
  · rw [q, up_eq, up_eq]
  · rw [up_ne q, up_ne q]
    exact h j (by omega)
theorem mstpK_ou (hc : 0 ≤ c) (h1 : ∀ j : Nat, (j : Int) < c → ou j = ou' j) (h2 : ∀ j : Nat, (j : Int) < c → ol j = ol' j) : ∀ K : Nat, OuR (mstpK K tn tf a x p e d t c m ou ol) (mstpK K tn tf a x p e d t c m ou' ol')
  | 0 => ⟨_, _, _, _, _, _, _, _, _, _, _, _, rfl, rfl, hc, h1, h2⟩
  | 1 => by
    by_cases z : t < tn
    · exact ⟨_, _, _, _, _, _, _, _, _, _, _, _, if_pos z, if_pos z, hc, h1, h2⟩
    · exact ⟨_, _, _, _, _, _, _, _, _, _, _, _, if_neg z, if_neg z, hc, h1, h2⟩
  | 2 => ⟨_, _, _, _, _, _, _, _, _, _, _, _, rfl, rfl, by omega, upc hc h1, upc hc h2⟩
  | 3 => ⟨_, _, _, _, _, _, _, _, _, _, _, _, rfl, rfl, hc, h1, h2⟩
  | 4 => ⟨_, _, _, _, _, _, _, _, _, _, _, _, rfl, rfl, hc, h1, h2⟩
  | 5 => ⟨_, _, _, _, _, _, _, _, _, _, _, _, rfl, rfl, hc, h1, h2⟩
  | 6 => ⟨_, _, _, _, _, _, _, _, _, _, _, _, rfl, rfl, hc, h1, h2⟩
  | 7 => ⟨_, _, _, _, _, _, _, _, _, _, _, _, rfl, rfl, hc, h1, h2⟩
  | 8 => ⟨_, _, _, _, _, _, _, _, _, _, _, _, rfl, rfl, hc, h1, h2⟩
  | 9 => ⟨_, _, _, _, _, _, _, _, _, _, _, _, rfl, rfl, hc, h1, h2⟩
  | 10 => ⟨_, _, _, _, _, _, _, _, _, _, _, _, rfl, rfl, hc, h1, h2⟩
  | 11 => ⟨_, _, _, _, _, _, _, _, _, _, _, _, rfl, rfl, hc, h1, h2⟩
  | 12 => by
    by_cases z : a = 0
    · exact ⟨_, _, _, _, _, _, _, _, _, _, _, _, if_pos z, if_pos z, hc, h1, h2⟩
    · exact ⟨_, _, _, _, _, _, _, _, _, _, _, _, if_neg z, if_neg z, hc, h1, h2⟩
  | 13 => by
    by_cases z : e = 1
    · exact ⟨_, _, _, _, _, _, _, _, _, _, _, _, if_pos z, if_pos z, hc, h1, h2⟩
    · exact ⟨_, _, _, _, _, _, _, _, _, _, _, _, if_neg z, if_neg z, hc, h1, h2⟩
  | 14 => ⟨_, _, _, _, _, _, _, _, _, _, _, _, rfl, rfl, hc, h1, h2⟩
  | n + 15 => by
    by_cases z : 128 ≤ a
    · exact ⟨_, _, _, _, _, _, _, _, _, _, _, _, if_pos z, if_pos z, hc, h1, h2⟩
    · exact ⟨_, _, _, _, _, _, _, _, _, _, _, _, if_neg z, if_neg z, hc, h1, h2⟩
theorem mgo_ou : ∀ (k : Nat) (s s' : MS), OuR s s' → (mgo tn tf k s).1 = (mgo tn tf k s').1 ∧ OuR (mgo tn tf k s).2 (mgo tn tf k s').2
  | 0, s, s', h => ⟨rfl, h⟩
  | k + 1, s, s', h => by
    obtain ⟨a, x, p, e, d, t, c, m, ou, ol, ou', ol', rfl, rfl, hc, h1, h2⟩ := id h
    by_cases q : hcM p c m
    · rw [mgo_hc q, mgo_hc q]
      exact ⟨rfl, h⟩
    · have hm : OuR (mstp tn tf a x p e d t c m ou ol) (mstp tn tf a x p e d t c m ou' ol') := mstpK_ou hc h1 h2 _
      rw [mgo_no q, mgo_no q]
      by_cases z : m p.toNat = 0
      · rw [if_pos z, if_pos z]
        exact ⟨rfl, hm⟩
      · rw [if_neg z, if_neg z]
        exact mgo_ou k _ _ hm
theorem mrun_ou {n : Int} {f : Nat → Int} : (mrun tn tf n f ou ol).1 = (mrun tn tf n f ou' ol').1 ∧ OuR (mrun tn tf n f ou ol).2 (mrun tn tf n f ou' ol').2 :=
  mgo_ou _ _ _ ⟨_, _, _, _, _, _, _, _, _, _, _, _, rfl, rfl, Int.le_refl 0, fun j hj => by omega, fun j hj => by omega⟩
theorem mrun_f {n : Int} {f f' : Nat → Int} (h : ∀ j : Nat, (j : Int) < n → f j = f' j) : mrun tn tf n f ou ol = mrun tn tf n f' ou ol := by
  unfold mrun
  rw [ldm_cg h]
end MPU
