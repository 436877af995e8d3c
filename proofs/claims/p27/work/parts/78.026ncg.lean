/-! texts that are the same say the same names -/
section NCG
variable {tn p len : Int} {tf tf' : Int → Int}
theorem nval_cg (h : ∀ j : Int, 0 ≤ j → j < tn → tf j = tf' j) (hp : 0 ≤ p) (h1 : 1 ≤ len) (h2 : p + len ≤ tn) : nval tf p len = nval tf' p len := by
  have e := h p hp (by omega)
  unfold nval
  rw [e]
  by_cases a : 3 < len ∨ (1 < len ∧ tf' p = 48)
  · rw [if_pos a, if_pos a]
  · rw [if_neg a, if_neg a]
    by_cases b : len = 1
    · rw [if_pos b, if_pos b]
    · have e1 := h (p + 1) (by omega) (by omega)
      rw [if_neg b, if_neg b, e1]
      by_cases c : len = 2
      · rw [if_pos c, if_pos c]
      · rw [if_neg c, if_neg c, h (p + 2) (by omega) (by omega)]
theorem pch_cg (h : ∀ j : Int, 0 ≤ j → j < tn → tf j = tf' j) (hp : 0 ≤ p) (h2 : p + len ≤ tn) (i : Nat) : pch tf p len i = pch tf' p len i := by
  unfold pch
  split
  · exact h _ (by omega) (by omega)
  · rfl
theorem wdx_cg (h : ∀ j : Int, 0 ≤ j → j < tn → tf j = tf' j) (hp : 0 ≤ p) (h2 : p + len ≤ tn) : wdx tf p len = wdx tf' p len := by
  have e : fst1 (wdm tf p len) 17 = fst1 (wdm tf' p len) 17 := fst1_cg (fun j _ => by
    constructor
    · intro q i hi
      rw [← pch_cg h hp h2]
      exact q i hi
    · intro q i hi
      rw [pch_cg h hp h2]
      exact q i hi)
  unfold wdx
  rw [e]
theorem tkE_cg (h : ∀ j : Int, 0 ≤ j → j < tn → tf j = tf' j) (hp : 0 ≤ p) (h2 : p < tn) : tkE tn tf p = tkE tn tf' p := by
  unfold tkE
  rw [h p hp h2, sq_cg (lo := 97) (hi := 122) h _ p rfl hp, sq_cg (lo := 48) (hi := 57) h _ p rfl hp]
theorem tkV_cg (h : ∀ j : Int, 0 ≤ j → j < tn → tf j = tf' j) (hp : 0 ≤ p) (h2 : p < tn) : tkV tn tf p = tkV tn tf' p := by
  unfold tkV
  rw [h p hp h2, sq_cg (lo := 97) (hi := 122) h _ p rfl hp, sq_cg (lo := 48) (hi := 57) h _ p rfl hp]
  by_cases a : 97 ≤ tf' p ∧ tf' p ≤ 122
  · rw [if_pos a, if_pos a]
    have r := sq_rg (tn := tn) (tf := tf') (lo := 97) (hi := 122) (i := p) (by omega)
    exact wdx_cg h hp (by omega)
  · rw [if_neg a, if_neg a]
    by_cases b : 48 ≤ tf' p ∧ tf' p ≤ 57
    · rw [if_pos b, if_pos b]
      have r := sq_rg (tn := tn) (tf := tf') (lo := 48) (hi := 57) (i := p + 1) (by omega)
      rw [← sq_on h2 b.1 b.2] at r
      exact nval_cg h hp (by omega) (by omega)
    · rw [if_neg b, if_neg b]
theorem tkK_cg (h : ∀ j : Int, 0 ≤ j → j < tn → tf j = tf' j) (hp : 0 ≤ p) (h2 : p < tn) : tkK tn tf p = tkK tn tf' p := by
  unfold tkK
  rw [h p hp h2, tkV_cg h hp h2]
theorem nms_cg (h : ∀ j : Int, 0 ≤ j → j < tn → tf j = tf' j) : ∀ (k : Nat) (due la p z : Int) (b l pl : Nat → Int), 0 ≤ p → nms tn tf k due la p z b l pl = nms tn tf' k due la p z b l pl := by
  intro k
  induction k with
  | zero => intros; rfl
  | succ k ih =>
    intro due la p z b l pl hp
    by_cases q : tn ≤ p
    · rw [nms, nms, if_pos q, if_pos q]
    · have r := tkE_rg (tf := tf') (p := p) (tn := tn) (by omega)
      have g := gap_rg (tn := tn) (tf := tf') (r := 0) (i := tkE tn tf' p) (by omega)
      have e4 : gapE tn tf 0 (tkE tn tf' p) = gapE tn tf' 0 (tkE tn tf' p) := gap_cg h _ 0 _ rfl (by omega)
      have I : ∀ (due la z : Int) (b l pl : Nat → Int), nms tn tf k due la (gapE tn tf' 0 (tkE tn tf' p)) z b l pl = nms tn tf' k due la (gapE tn tf' 0 (tkE tn tf' p)) z b l pl := fun due la z b l pl => ih due la _ z b l pl (by omega)
      rw [nms, nms, if_neg q, if_neg q, tkK_cg h hp (by omega), tkV_cg h hp (by omega), tkE_cg h hp (by omega), e4]
      simp only [I]
theorem namE_cg (h0 : 0 ≤ tn) (h : ∀ j : Int, 0 ≤ j → j < tn → tf j = tf' j) : namE tn tf = namE tn tf' := by
  have e : nmE tn tf = nmE tn tf' := by
    unfold nmE
    rw [gap_cg h _ 0 0 rfl (by omega)]
    exact nms_cg h _ _ _ _ _ _ _ _ (by have := gap_rg (tn := tn) (tf := tf') (r := 0) (i := 0) h0; omega)
  unfold namE
  rw [e]
end NCG
