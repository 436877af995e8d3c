/-! the reference's words and numbers -/
def iL (z : Int) : Int64 := Int64.ofInt z
abbrev rl (z : Int) : Prop := -9223372036854775808 ≤ z ∧ z ≤ 9223372036854775807
theorem iL_toInt {z : Int} (h : rl z) : (iL z).toInt = z := Int64.toInt_ofInt_of_le (by have := h.1; omega) (by have := h.2; omega)
theorem iL_add (a b : Int) : iL a + iL b = iL (a + b) := (Int64.ofInt_add a b).symm
theorem iL_sub (a b : Int) : iL a - iL b = iL (a - b) := (Int64.ofInt_sub a b).symm
theorem iL_mul (a b : Int) : iL a * iL b = iL (a * b) := (Int64.ofInt_mul a b).symm
theorem iL_wide {z : Int} (h : rg z) : (iZ z).toInt64 = iL z := by
  apply Int64.toInt_inj.mp
  rw [Int32.toInt_toInt64, iZ_toInt h, iL_toInt ⟨by omega, by omega⟩]
theorem lcm_eq {a b : Int} (h : a = b) : lg_cmp (iL a) (iL b) = iZ 0 := by
  subst h
  unfold lg_cmp
  rw [if_neg (by rw [gt_iff_lt, Int64.lt_iff_toInt_lt]; omega), if_pos rfl]
  exact iZ_0
theorem lcm_ne {a b : Int} (ha : rl a) (hb : rl b) (h : a ≠ b) : ∃ c : Int, (c = 1 ∨ c = -1) ∧ lg_cmp (iL a) (iL b) = iZ c := by
  have hn : ¬ iL a = iL b := fun q => by
    have := congrArg Int64.toInt q
    rw [iL_toInt ha, iL_toInt hb] at this
    exact h this
  unfold lg_cmp
  by_cases q : iL a > iL b
  · exact ⟨1, Or.inl rfl, by rw [if_pos q]; decide +kernel⟩
  · exact ⟨-1, Or.inr rfl, by rw [if_neg q, if_neg hn]; decide +kernel⟩
def mor (v c : Int) : Int := if c = 0 then v else v * 27 + c - 96
def spv (a b c d e : Int) : Int := mor (mor (mor (mor (mor 0 a) b) c) d) e
def cz (c : Int) : Int := if c = 32 then 0 else c
def cdw (w : Nat) : Int := spv (cz (spl (5 * w))) (cz (spl (5 * w + 1))) (cz (spl (5 * w + 2))) (cz (spl (5 * w + 3))) (cz (spl (5 * w + 4)))
def ench (tf : Int → Int) (p : Int) : Nat → Int
  | 0 => 0
  | k + 1 => ench tf p k * 27 + tf (p + k) - 96
theorem wdm_iff {tf : Int → Int} {p len : Int} {w : Nat} : wdm tf p len w ↔ (spl (5 * w) = pch tf p len 0 ∧ spl (5 * w + 1) = pch tf p len 1 ∧ spl (5 * w + 2) = pch tf p len 2 ∧ spl (5 * w + 3) = pch tf p len 3 ∧ spl (5 * w + 4) = pch tf p len 4) := by
  constructor
  · intro h
    exact ⟨h 0 (by decide), h 1 (by decide), h 2 (by decide), h 3 (by decide), h 4 (by decide)⟩
  · rintro ⟨h0, h1, h2, h3, h4⟩ i hi
    match i, hi with
    | 0, _ => exact h0
    | 1, _ => exact h1
    | 2, _ => exact h2
    | 3, _ => exact h3
    | 4, _ => exact h4
    | i + 5, hi => omega
theorem spr_0 : spl 0 = 115 ∧ spl 1 = 116 ∧ spl 2 = 111 ∧ spl 3 = 112 ∧ spl 4 = 32 ∧ cdw 0 = 388978 := by decide +kernel
theorem spr_1 : spl 5 = 105 ∧ spl 6 = 110 ∧ spl 7 = 32 ∧ spl 8 = 32 ∧ spl 9 = 32 ∧ cdw 1 = 257 := by decide +kernel
theorem spr_2 : spl 10 = 111 ∧ spl 11 = 117 ∧ spl 12 = 116 ∧ spl 13 = 32 ∧ spl 14 = 32 ∧ cdw 2 = 11522 := by decide +kernel
theorem spr_3 : spl 15 = 115 ∧ spl 16 = 101 ∧ spl 17 = 116 ∧ spl 18 = 32 ∧ spl 19 = 32 ∧ cdw 3 = 14006 := by decide +kernel
theorem spr_4 : spl 20 = 108 ∧ spl 21 = 111 ∧ spl 22 = 97 ∧ spl 23 = 100 ∧ spl 24 = 32 ∧ cdw 4 = 247162 := by decide +kernel
theorem spr_5 : spl 25 = 115 ∧ spl 26 = 116 ∧ spl 27 = 111 ∧ spl 28 = 114 ∧ spl 29 = 101 ∧ cdw 5 = 10502465 := by decide +kernel
theorem spr_6 : spl 30 = 97 ∧ spl 31 = 100 ∧ spl 32 = 100 ∧ spl 33 = 32 ∧ spl 34 = 32 ∧ cdw 6 = 841 := by decide +kernel
theorem spr_7 : spl 35 = 115 ∧ spl 36 = 117 ∧ spl 37 = 98 ∧ spl 38 = 32 ∧ spl 39 = 32 ∧ cdw 7 = 14420 := by decide +kernel
theorem spr_8 : spl 40 = 103 ∧ spl 41 = 101 ∧ spl 42 = 116 ∧ spl 43 = 32 ∧ spl 44 = 32 ∧ cdw 8 = 5258 := by decide +kernel
theorem spr_9 : spl 45 = 112 ∧ spl 46 = 117 ∧ spl 47 = 116 ∧ spl 48 = 32 ∧ spl 49 = 32 ∧ cdw 9 = 12251 := by decide +kernel
theorem spr_10 : spl 50 = 116 ∧ spl 51 = 111 ∧ spl 52 = 32 ∧ spl 53 = 32 ∧ spl 54 = 32 ∧ cdw 10 = 555 := by decide +kernel
theorem spr_11 : spl 55 = 106 ∧ spl 56 = 117 ∧ spl 57 = 109 ∧ spl 58 = 112 ∧ spl 59 = 32 ∧ cdw 11 = 212506 := by decide +kernel
theorem spr_12 : spl 60 = 122 ∧ spl 61 = 101 ∧ spl 62 = 114 ∧ spl 63 = 111 ∧ spl 64 = 32 ∧ cdw 12 = 515904 := by decide +kernel
theorem spr_13 : spl 65 = 101 ∧ spl 66 = 110 ∧ spl 67 = 100 ∧ spl 68 = 32 ∧ spl 69 = 32 ∧ cdw 13 = 4027 := by decide +kernel
theorem spr_14 : spl 70 = 112 ∧ spl 71 = 108 ∧ spl 72 = 117 ∧ spl 73 = 115 ∧ spl 74 = 32 ∧ cdw 14 = 324262 := by decide +kernel
theorem spr_15 : spl 75 = 109 ∧ spl 76 = 105 ∧ spl 77 = 110 ∧ spl 78 = 117 ∧ spl 79 = 115 ∧ cdw 15 = 7096672 := by decide +kernel
theorem spr_16 : spl 80 = 98 ∧ spl 81 = 121 ∧ spl 82 = 116 ∧ spl 83 = 101 ∧ spl 84 = 32 ∧ cdw 16 = 58136 := by decide +kernel
section ENC
variable {tf : Int → Int} {p : Int}
theorem ench_1 : ench tf p 1 = tf p - 96 := by
  show 0 * 27 + tf (p + ((0 : Nat) : Int)) - 96 = _
  rw [show p + ((0 : Nat) : Int) = p by omega]
  omega
theorem ench_2 : ench tf p 2 = (tf p - 96) * 27 + (tf (p + 1) - 96) := by
  show ench tf p 1 * 27 + tf (p + 1) - 96 = _
  rw [ench_1]; omega
theorem ench_3 : ench tf p 3 = ((tf p - 96) * 27 + (tf (p + 1) - 96)) * 27 + (tf (p + 2) - 96) := by
  show ench tf p 2 * 27 + tf (p + 2) - 96 = _
  rw [ench_2]; omega
theorem ench_4 : ench tf p 4 = (((tf p - 96) * 27 + (tf (p + 1) - 96)) * 27 + (tf (p + 2) - 96)) * 27 + (tf (p + 3) - 96) := by
  show ench tf p 3 * 27 + tf (p + 3) - 96 = _
  rw [ench_3]; omega
theorem ench_5 : ench tf p 5 = ((((tf p - 96) * 27 + (tf (p + 1) - 96)) * 27 + (tf (p + 2) - 96)) * 27 + (tf (p + 3) - 96)) * 27 + (tf (p + 4) - 96) := by
  show ench tf p 4 * 27 + tf (p + 4) - 96 = _
  rw [ench_4]; omega
theorem enc_1 (c0 : 97 ≤ tf p ∧ tf p ≤ 122) (w : Nat) (hw : w < 17) : ench tf p 1 = cdw w ↔ wdm tf p 1 w := by
  rw [wdm_iff, ench_1]
  have q0 : pch tf p 1 0 = tf p := (if_pos (by decide)).trans (by rw [show p + ((0 : Nat) : Int) = p by omega])
  have q1 : pch tf p 1 1 = 32 := if_neg (by decide)
  have q2 : pch tf p 1 2 = 32 := if_neg (by decide)
  have q3 : pch tf p 1 3 = 32 := if_neg (by decide)
  have q4 : pch tf p 1 4 = 32 := if_neg (by decide)
  rw [q0, q1, q2, q3, q4]
  match w, hw with
  | 0, _ => obtain ⟨s0, s1, s2, s3, s4, s5⟩ := spr_0; simp only [Nat.mul_zero, Nat.zero_add, Nat.reduceMul, Nat.reduceAdd] at *; rw [s0, s1, s2, s3, s4, s5]; omega
  | 1, _ => obtain ⟨s0, s1, s2, s3, s4, s5⟩ := spr_1; simp only [Nat.mul_zero, Nat.zero_add, Nat.reduceMul, Nat.reduceAdd] at *; rw [s0, s1, s2, s3, s4, s5]; omega
  | 2, _ => obtain ⟨s0, s1, s2, s3, s4, s5⟩ := spr_2; simp only [Nat.mul_zero, Nat.zero_add, Nat.reduceMul, Nat.reduceAdd] at *; rw [s0, s1, s2, s3, s4, s5]; omega
  | 3, _ => obtain ⟨s0, s1, s2, s3, s4, s5⟩ := spr_3; simp only [Nat.mul_zero, Nat.zero_add, Nat.reduceMul, Nat.reduceAdd] at *; rw [s0, s1, s2, s3, s4, s5]; omega
  | 4, _ => obtain ⟨s0, s1, s2, s3, s4, s5⟩ := spr_4; simp only [Nat.mul_zero, Nat.zero_add, Nat.reduceMul, Nat.reduceAdd] at *; rw [s0, s1, s2, s3, s4, s5]; omega
  | 5, _ => obtain ⟨s0, s1, s2, s3, s4, s5⟩ := spr_5; simp only [Nat.mul_zero, Nat.zero_add, Nat.reduceMul, Nat.reduceAdd] at *; rw [s0, s1, s2, s3, s4, s5]; omega
  | 6, _ => obtain ⟨s0, s1, s2, s3, s4, s5⟩ := spr_6; simp only [Nat.mul_zero, Nat.zero_add, Nat.reduceMul, Nat.reduceAdd] at *; rw [s0, s1, s2, s3, s4, s5]; omega
  | 7, _ => obtain ⟨s0, s1, s2, s3, s4, s5⟩ := spr_7; simp only [Nat.mul_zero, Nat.zero_add, Nat.reduceMul, Nat.reduceAdd] at *; rw [s0, s1, s2, s3, s4, s5]; omega
  | 8, _ => obtain ⟨s0, s1, s2, s3, s4, s5⟩ := spr_8; simp only [Nat.mul_zero, Nat.zero_add, Nat.reduceMul, Nat.reduceAdd] at *; rw [s0, s1, s2, s3, s4, s5]; omega
  | 9, _ => obtain ⟨s0, s1, s2, s3, s4, s5⟩ := spr_9; simp only [Nat.mul_zero, Nat.zero_add, Nat.reduceMul, Nat.reduceAdd] at *; rw [s0, s1, s2, s3, s4, s5]; omega
  | 10, _ => obtain ⟨s0, s1, s2, s3, s4, s5⟩ := spr_10; simp only [Nat.mul_zero, Nat.zero_add, Nat.reduceMul, Nat.reduceAdd] at *; rw [s0, s1, s2, s3, s4, s5]; omega
  | 11, _ => obtain ⟨s0, s1, s2, s3, s4, s5⟩ := spr_11; simp only [Nat.mul_zero, Nat.zero_add, Nat.reduceMul, Nat.reduceAdd] at *; rw [s0, s1, s2, s3, s4, s5]; omega
  | 12, _ => obtain ⟨s0, s1, s2, s3, s4, s5⟩ := spr_12; simp only [Nat.mul_zero, Nat.zero_add, Nat.reduceMul, Nat.reduceAdd] at *; rw [s0, s1, s2, s3, s4, s5]; omega
  | 13, _ => obtain ⟨s0, s1, s2, s3, s4, s5⟩ := spr_13; simp only [Nat.mul_zero, Nat.zero_add, Nat.reduceMul, Nat.reduceAdd] at *; rw [s0, s1, s2, s3, s4, s5]; omega
  | 14, _ => obtain ⟨s0, s1, s2, s3, s4, s5⟩ := spr_14; simp only [Nat.mul_zero, Nat.zero_add, Nat.reduceMul, Nat.reduceAdd] at *; rw [s0, s1, s2, s3, s4, s5]; omega
  | 15, _ => obtain ⟨s0, s1, s2, s3, s4, s5⟩ := spr_15; simp only [Nat.mul_zero, Nat.zero_add, Nat.reduceMul, Nat.reduceAdd] at *; rw [s0, s1, s2, s3, s4, s5]; omega
  | 16, _ => obtain ⟨s0, s1, s2, s3, s4, s5⟩ := spr_16; simp only [Nat.mul_zero, Nat.zero_add, Nat.reduceMul, Nat.reduceAdd] at *; rw [s0, s1, s2, s3, s4, s5]; omega
  | w + 17, hw => omega
theorem enc_2 (c0 : 97 ≤ tf p ∧ tf p ≤ 122) (c1 : 97 ≤ tf (p + 1) ∧ tf (p + 1) ≤ 122) (w : Nat) (hw : w < 17) : ench tf p 2 = cdw w ↔ wdm tf p 2 w := by
  rw [wdm_iff, ench_2]
  have q0 : pch tf p 2 0 = tf p := (if_pos (by decide)).trans (by rw [show p + ((0 : Nat) : Int) = p by omega])
  have q1 : pch tf p 2 1 = tf (p + 1) := if_pos (by decide)
  have q2 : pch tf p 2 2 = 32 := if_neg (by decide)
  have q3 : pch tf p 2 3 = 32 := if_neg (by decide)
  have q4 : pch tf p 2 4 = 32 := if_neg (by decide)
  rw [q0, q1, q2, q3, q4]
  match w, hw with
  | 0, _ => obtain ⟨s0, s1, s2, s3, s4, s5⟩ := spr_0; simp only [Nat.mul_zero, Nat.zero_add, Nat.reduceMul, Nat.reduceAdd] at *; rw [s0, s1, s2, s3, s4, s5]; omega
  | 1, _ => obtain ⟨s0, s1, s2, s3, s4, s5⟩ := spr_1; simp only [Nat.mul_zero, Nat.zero_add, Nat.reduceMul, Nat.reduceAdd] at *; rw [s0, s1, s2, s3, s4, s5]; omega
  | 2, _ => obtain ⟨s0, s1, s2, s3, s4, s5⟩ := spr_2; simp only [Nat.mul_zero, Nat.zero_add, Nat.reduceMul, Nat.reduceAdd] at *; rw [s0, s1, s2, s3, s4, s5]; omega
  | 3, _ => obtain ⟨s0, s1, s2, s3, s4, s5⟩ := spr_3; simp only [Nat.mul_zero, Nat.zero_add, Nat.reduceMul, Nat.reduceAdd] at *; rw [s0, s1, s2, s3, s4, s5]; omega
  | 4, _ => obtain ⟨s0, s1, s2, s3, s4, s5⟩ := spr_4; simp only [Nat.mul_zero, Nat.zero_add, Nat.reduceMul, Nat.reduceAdd] at *; rw [s0, s1, s2, s3, s4, s5]; omega
  | 5, _ => obtain ⟨s0, s1, s2, s3, s4, s5⟩ := spr_5; simp only [Nat.mul_zero, Nat.zero_add, Nat.reduceMul, Nat.reduceAdd] at *; rw [s0, s1, s2, s3, s4, s5]; omega
  | 6, _ => obtain ⟨s0, s1, s2, s3, s4, s5⟩ := spr_6; simp only [Nat.mul_zero, Nat.zero_add, Nat.reduceMul, Nat.reduceAdd] at *; rw [s0, s1, s2, s3, s4, s5]; omega
  | 7, _ => obtain ⟨s0, s1, s2, s3, s4, s5⟩ := spr_7; simp only [Nat.mul_zero, Nat.zero_add, Nat.reduceMul, Nat.reduceAdd] at *; rw [s0, s1, s2, s3, s4, s5]; omega
  | 8, _ => obtain ⟨s0, s1, s2, s3, s4, s5⟩ := spr_8; simp only [Nat.mul_zero, Nat.zero_add, Nat.reduceMul, Nat.reduceAdd] at *; rw [s0, s1, s2, s3, s4, s5]; omega
  | 9, _ => obtain ⟨s0, s1, s2, s3, s4, s5⟩ := spr_9; simp only [Nat.mul_zero, Nat.zero_add, Nat.reduceMul, Nat.reduceAdd] at *; rw [s0, s1, s2, s3, s4, s5]; omega
  | 10, _ => obtain ⟨s0, s1, s2, s3, s4, s5⟩ := spr_10; simp only [Nat.mul_zero, Nat.zero_add, Nat.reduceMul, Nat.reduceAdd] at *; rw [s0, s1, s2, s3, s4, s5]; omega
  | 11, _ => obtain ⟨s0, s1, s2, s3, s4, s5⟩ := spr_11; simp only [Nat.mul_zero, Nat.zero_add, Nat.reduceMul, Nat.reduceAdd] at *; rw [s0, s1, s2, s3, s4, s5]; omega
  | 12, _ => obtain ⟨s0, s1, s2, s3, s4, s5⟩ := spr_12; simp only [Nat.mul_zero, Nat.zero_add, Nat.reduceMul, Nat.reduceAdd] at *; rw [s0, s1, s2, s3, s4, s5]; omega
  | 13, _ => obtain ⟨s0, s1, s2, s3, s4, s5⟩ := spr_13; simp only [Nat.mul_zero, Nat.zero_add, Nat.reduceMul, Nat.reduceAdd] at *; rw [s0, s1, s2, s3, s4, s5]; omega
  | 14, _ => obtain ⟨s0, s1, s2, s3, s4, s5⟩ := spr_14; simp only [Nat.mul_zero, Nat.zero_add, Nat.reduceMul, Nat.reduceAdd] at *; rw [s0, s1, s2, s3, s4, s5]; omega
  | 15, _ => obtain ⟨s0, s1, s2, s3, s4, s5⟩ := spr_15; simp only [Nat.mul_zero, Nat.zero_add, Nat.reduceMul, Nat.reduceAdd] at *; rw [s0, s1, s2, s3, s4, s5]; omega
  | 16, _ => obtain ⟨s0, s1, s2, s3, s4, s5⟩ := spr_16; simp only [Nat.mul_zero, Nat.zero_add, Nat.reduceMul, Nat.reduceAdd] at *; rw [s0, s1, s2, s3, s4, s5]; omega
  | w + 17, hw => omega
theorem enc_3 (c0 : 97 ≤ tf p ∧ tf p ≤ 122) (c1 : 97 ≤ tf (p + 1) ∧ tf (p + 1) ≤ 122) (c2 : 97 ≤ tf (p + 2) ∧ tf (p + 2) ≤ 122) (w : Nat) (hw : w < 17) : ench tf p 3 = cdw w ↔ wdm tf p 3 w := by
  rw [wdm_iff, ench_3]
  have q0 : pch tf p 3 0 = tf p := (if_pos (by decide)).trans (by rw [show p + ((0 : Nat) : Int) = p by omega])
  have q1 : pch tf p 3 1 = tf (p + 1) := if_pos (by decide)
  have q2 : pch tf p 3 2 = tf (p + 2) := if_pos (by decide)
  have q3 : pch tf p 3 3 = 32 := if_neg (by decide)
  have q4 : pch tf p 3 4 = 32 := if_neg (by decide)
  rw [q0, q1, q2, q3, q4]
  match w, hw with
  | 0, _ => obtain ⟨s0, s1, s2, s3, s4, s5⟩ := spr_0; simp only [Nat.mul_zero, Nat.zero_add, Nat.reduceMul, Nat.reduceAdd] at *; rw [s0, s1, s2, s3, s4, s5]; omega
  | 1, _ => obtain ⟨s0, s1, s2, s3, s4, s5⟩ := spr_1; simp only [Nat.mul_zero, Nat.zero_add, Nat.reduceMul, Nat.reduceAdd] at *; rw [s0, s1, s2, s3, s4, s5]; omega
  | 2, _ => obtain ⟨s0, s1, s2, s3, s4, s5⟩ := spr_2; simp only [Nat.mul_zero, Nat.zero_add, Nat.reduceMul, Nat.reduceAdd] at *; rw [s0, s1, s2, s3, s4, s5]; omega
  | 3, _ => obtain ⟨s0, s1, s2, s3, s4, s5⟩ := spr_3; simp only [Nat.mul_zero, Nat.zero_add, Nat.reduceMul, Nat.reduceAdd] at *; rw [s0, s1, s2, s3, s4, s5]; omega
  | 4, _ => obtain ⟨s0, s1, s2, s3, s4, s5⟩ := spr_4; simp only [Nat.mul_zero, Nat.zero_add, Nat.reduceMul, Nat.reduceAdd] at *; rw [s0, s1, s2, s3, s4, s5]; omega
  | 5, _ => obtain ⟨s0, s1, s2, s3, s4, s5⟩ := spr_5; simp only [Nat.mul_zero, Nat.zero_add, Nat.reduceMul, Nat.reduceAdd] at *; rw [s0, s1, s2, s3, s4, s5]; omega
  | 6, _ => obtain ⟨s0, s1, s2, s3, s4, s5⟩ := spr_6; simp only [Nat.mul_zero, Nat.zero_add, Nat.reduceMul, Nat.reduceAdd] at *; rw [s0, s1, s2, s3, s4, s5]; omega
  | 7, _ => obtain ⟨s0, s1, s2, s3, s4, s5⟩ := spr_7; simp only [Nat.mul_zero, Nat.zero_add, Nat.reduceMul, Nat.reduceAdd] at *; rw [s0, s1, s2, s3, s4, s5]; omega
  | 8, _ => obtain ⟨s0, s1, s2, s3, s4, s5⟩ := spr_8; simp only [Nat.mul_zero, Nat.zero_add, Nat.reduceMul, Nat.reduceAdd] at *; rw [s0, s1, s2, s3, s4, s5]; omega
  | 9, _ => obtain ⟨s0, s1, s2, s3, s4, s5⟩ := spr_9; simp only [Nat.mul_zero, Nat.zero_add, Nat.reduceMul, Nat.reduceAdd] at *; rw [s0, s1, s2, s3, s4, s5]; omega
  | 10, _ => obtain ⟨s0, s1, s2, s3, s4, s5⟩ := spr_10; simp only [Nat.mul_zero, Nat.zero_add, Nat.reduceMul, Nat.reduceAdd] at *; rw [s0, s1, s2, s3, s4, s5]; omega
  | 11, _ => obtain ⟨s0, s1, s2, s3, s4, s5⟩ := spr_11; simp only [Nat.mul_zero, Nat.zero_add, Nat.reduceMul, Nat.reduceAdd] at *; rw [s0, s1, s2, s3, s4, s5]; omega
  | 12, _ => obtain ⟨s0, s1, s2, s3, s4, s5⟩ := spr_12; simp only [Nat.mul_zero, Nat.zero_add, Nat.reduceMul, Nat.reduceAdd] at *; rw [s0, s1, s2, s3, s4, s5]; omega
  | 13, _ => obtain ⟨s0, s1, s2, s3, s4, s5⟩ := spr_13; simp only [Nat.mul_zero, Nat.zero_add, Nat.reduceMul, Nat.reduceAdd] at *; rw [s0, s1, s2, s3, s4, s5]; omega
  | 14, _ => obtain ⟨s0, s1, s2, s3, s4, s5⟩ := spr_14; simp only [Nat.mul_zero, Nat.zero_add, Nat.reduceMul, Nat.reduceAdd] at *; rw [s0, s1, s2, s3, s4, s5]; omega
  | 15, _ => obtain ⟨s0, s1, s2, s3, s4, s5⟩ := spr_15; simp only [Nat.mul_zero, Nat.zero_add, Nat.reduceMul, Nat.reduceAdd] at *; rw [s0, s1, s2, s3, s4, s5]; omega
  | 16, _ => obtain ⟨s0, s1, s2, s3, s4, s5⟩ := spr_16; simp only [Nat.mul_zero, Nat.zero_add, Nat.reduceMul, Nat.reduceAdd] at *; rw [s0, s1, s2, s3, s4, s5]; omega
  | w + 17, hw => omega
theorem enc_4 (c0 : 97 ≤ tf p ∧ tf p ≤ 122) (c1 : 97 ≤ tf (p + 1) ∧ tf (p + 1) ≤ 122) (c2 : 97 ≤ tf (p + 2) ∧ tf (p + 2) ≤ 122) (c3 : 97 ≤ tf (p + 3) ∧ tf (p + 3) ≤ 122) (w : Nat) (hw : w < 17) : ench tf p 4 = cdw w ↔ wdm tf p 4 w := by
  rw [wdm_iff, ench_4]
  have q0 : pch tf p 4 0 = tf p := (if_pos (by decide)).trans (by rw [show p + ((0 : Nat) : Int) = p by omega])
  have q1 : pch tf p 4 1 = tf (p + 1) := if_pos (by decide)
  have q2 : pch tf p 4 2 = tf (p + 2) := if_pos (by decide)
  have q3 : pch tf p 4 3 = tf (p + 3) := if_pos (by decide)
  have q4 : pch tf p 4 4 = 32 := if_neg (by decide)
  rw [q0, q1, q2, q3, q4]
  match w, hw with
  | 0, _ => obtain ⟨s0, s1, s2, s3, s4, s5⟩ := spr_0; simp only [Nat.mul_zero, Nat.zero_add, Nat.reduceMul, Nat.reduceAdd] at *; rw [s0, s1, s2, s3, s4, s5]; omega
  | 1, _ => obtain ⟨s0, s1, s2, s3, s4, s5⟩ := spr_1; simp only [Nat.mul_zero, Nat.zero_add, Nat.reduceMul, Nat.reduceAdd] at *; rw [s0, s1, s2, s3, s4, s5]; omega
  | 2, _ => obtain ⟨s0, s1, s2, s3, s4, s5⟩ := spr_2; simp only [Nat.mul_zero, Nat.zero_add, Nat.reduceMul, Nat.reduceAdd] at *; rw [s0, s1, s2, s3, s4, s5]; omega
  | 3, _ => obtain ⟨s0, s1, s2, s3, s4, s5⟩ := spr_3; simp only [Nat.mul_zero, Nat.zero_add, Nat.reduceMul, Nat.reduceAdd] at *; rw [s0, s1, s2, s3, s4, s5]; omega
  | 4, _ => obtain ⟨s0, s1, s2, s3, s4, s5⟩ := spr_4; simp only [Nat.mul_zero, Nat.zero_add, Nat.reduceMul, Nat.reduceAdd] at *; rw [s0, s1, s2, s3, s4, s5]; omega
  | 5, _ => obtain ⟨s0, s1, s2, s3, s4, s5⟩ := spr_5; simp only [Nat.mul_zero, Nat.zero_add, Nat.reduceMul, Nat.reduceAdd] at *; rw [s0, s1, s2, s3, s4, s5]; omega
  | 6, _ => obtain ⟨s0, s1, s2, s3, s4, s5⟩ := spr_6; simp only [Nat.mul_zero, Nat.zero_add, Nat.reduceMul, Nat.reduceAdd] at *; rw [s0, s1, s2, s3, s4, s5]; omega
  | 7, _ => obtain ⟨s0, s1, s2, s3, s4, s5⟩ := spr_7; simp only [Nat.mul_zero, Nat.zero_add, Nat.reduceMul, Nat.reduceAdd] at *; rw [s0, s1, s2, s3, s4, s5]; omega
  | 8, _ => obtain ⟨s0, s1, s2, s3, s4, s5⟩ := spr_8; simp only [Nat.mul_zero, Nat.zero_add, Nat.reduceMul, Nat.reduceAdd] at *; rw [s0, s1, s2, s3, s4, s5]; omega
  | 9, _ => obtain ⟨s0, s1, s2, s3, s4, s5⟩ := spr_9; simp only [Nat.mul_zero, Nat.zero_add, Nat.reduceMul, Nat.reduceAdd] at *; rw [s0, s1, s2, s3, s4, s5]; omega
  | 10, _ => obtain ⟨s0, s1, s2, s3, s4, s5⟩ := spr_10; simp only [Nat.mul_zero, Nat.zero_add, Nat.reduceMul, Nat.reduceAdd] at *; rw [s0, s1, s2, s3, s4, s5]; omega
  | 11, _ => obtain ⟨s0, s1, s2, s3, s4, s5⟩ := spr_11; simp only [Nat.mul_zero, Nat.zero_add, Nat.reduceMul, Nat.reduceAdd] at *; rw [s0, s1, s2, s3, s4, s5]; omega
  | 12, _ => obtain ⟨s0, s1, s2, s3, s4, s5⟩ := spr_12; simp only [Nat.mul_zero, Nat.zero_add, Nat.reduceMul, Nat.reduceAdd] at *; rw [s0, s1, s2, s3, s4, s5]; omega
  | 13, _ => obtain ⟨s0, s1, s2, s3, s4, s5⟩ := spr_13; simp only [Nat.mul_zero, Nat.zero_add, Nat.reduceMul, Nat.reduceAdd] at *; rw [s0, s1, s2, s3, s4, s5]; omega
  | 14, _ => obtain ⟨s0, s1, s2, s3, s4, s5⟩ := spr_14; simp only [Nat.mul_zero, Nat.zero_add, Nat.reduceMul, Nat.reduceAdd] at *; rw [s0, s1, s2, s3, s4, s5]; omega
  | 15, _ => obtain ⟨s0, s1, s2, s3, s4, s5⟩ := spr_15; simp only [Nat.mul_zero, Nat.zero_add, Nat.reduceMul, Nat.reduceAdd] at *; rw [s0, s1, s2, s3, s4, s5]; omega
  | 16, _ => obtain ⟨s0, s1, s2, s3, s4, s5⟩ := spr_16; simp only [Nat.mul_zero, Nat.zero_add, Nat.reduceMul, Nat.reduceAdd] at *; rw [s0, s1, s2, s3, s4, s5]; omega
  | w + 17, hw => omega
theorem enc_5 (c0 : 97 ≤ tf p ∧ tf p ≤ 122) (c1 : 97 ≤ tf (p + 1) ∧ tf (p + 1) ≤ 122) (c2 : 97 ≤ tf (p + 2) ∧ tf (p + 2) ≤ 122) (c3 : 97 ≤ tf (p + 3) ∧ tf (p + 3) ≤ 122) (c4 : 97 ≤ tf (p + 4) ∧ tf (p + 4) ≤ 122) (w : Nat) (hw : w < 17) : ench tf p 5 = cdw w ↔ wdm tf p 5 w := by
  rw [wdm_iff, ench_5]
  have q0 : pch tf p 5 0 = tf p := (if_pos (by decide)).trans (by rw [show p + ((0 : Nat) : Int) = p by omega])
  have q1 : pch tf p 5 1 = tf (p + 1) := if_pos (by decide)
  have q2 : pch tf p 5 2 = tf (p + 2) := if_pos (by decide)
  have q3 : pch tf p 5 3 = tf (p + 3) := if_pos (by decide)
  have q4 : pch tf p 5 4 = tf (p + 4) := if_pos (by decide)
  rw [q0, q1, q2, q3, q4]
  match w, hw with
  | 0, _ => obtain ⟨s0, s1, s2, s3, s4, s5⟩ := spr_0; simp only [Nat.mul_zero, Nat.zero_add, Nat.reduceMul, Nat.reduceAdd] at *; rw [s0, s1, s2, s3, s4, s5]; omega
  | 1, _ => obtain ⟨s0, s1, s2, s3, s4, s5⟩ := spr_1; simp only [Nat.mul_zero, Nat.zero_add, Nat.reduceMul, Nat.reduceAdd] at *; rw [s0, s1, s2, s3, s4, s5]; omega
  | 2, _ => obtain ⟨s0, s1, s2, s3, s4, s5⟩ := spr_2; simp only [Nat.mul_zero, Nat.zero_add, Nat.reduceMul, Nat.reduceAdd] at *; rw [s0, s1, s2, s3, s4, s5]; omega
  | 3, _ => obtain ⟨s0, s1, s2, s3, s4, s5⟩ := spr_3; simp only [Nat.mul_zero, Nat.zero_add, Nat.reduceMul, Nat.reduceAdd] at *; rw [s0, s1, s2, s3, s4, s5]; omega
  | 4, _ => obtain ⟨s0, s1, s2, s3, s4, s5⟩ := spr_4; simp only [Nat.mul_zero, Nat.zero_add, Nat.reduceMul, Nat.reduceAdd] at *; rw [s0, s1, s2, s3, s4, s5]; omega
  | 5, _ => obtain ⟨s0, s1, s2, s3, s4, s5⟩ := spr_5; simp only [Nat.mul_zero, Nat.zero_add, Nat.reduceMul, Nat.reduceAdd] at *; rw [s0, s1, s2, s3, s4, s5]; omega
  | 6, _ => obtain ⟨s0, s1, s2, s3, s4, s5⟩ := spr_6; simp only [Nat.mul_zero, Nat.zero_add, Nat.reduceMul, Nat.reduceAdd] at *; rw [s0, s1, s2, s3, s4, s5]; omega
  | 7, _ => obtain ⟨s0, s1, s2, s3, s4, s5⟩ := spr_7; simp only [Nat.mul_zero, Nat.zero_add, Nat.reduceMul, Nat.reduceAdd] at *; rw [s0, s1, s2, s3, s4, s5]; omega
  | 8, _ => obtain ⟨s0, s1, s2, s3, s4, s5⟩ := spr_8; simp only [Nat.mul_zero, Nat.zero_add, Nat.reduceMul, Nat.reduceAdd] at *; rw [s0, s1, s2, s3, s4, s5]; omega
  | 9, _ => obtain ⟨s0, s1, s2, s3, s4, s5⟩ := spr_9; simp only [Nat.mul_zero, Nat.zero_add, Nat.reduceMul, Nat.reduceAdd] at *; rw [s0, s1, s2, s3, s4, s5]; omega
  | 10, _ => obtain ⟨s0, s1, s2, s3, s4, s5⟩ := spr_10; simp only [Nat.mul_zero, Nat.zero_add, Nat.reduceMul, Nat.reduceAdd] at *; rw [s0, s1, s2, s3, s4, s5]; omega
  | 11, _ => obtain ⟨s0, s1, s2, s3, s4, s5⟩ := spr_11; simp only [Nat.mul_zero, Nat.zero_add, Nat.reduceMul, Nat.reduceAdd] at *; rw [s0, s1, s2, s3, s4, s5]; omega
  | 12, _ => obtain ⟨s0, s1, s2, s3, s4, s5⟩ := spr_12; simp only [Nat.mul_zero, Nat.zero_add, Nat.reduceMul, Nat.reduceAdd] at *; rw [s0, s1, s2, s3, s4, s5]; omega
  | 13, _ => obtain ⟨s0, s1, s2, s3, s4, s5⟩ := spr_13; simp only [Nat.mul_zero, Nat.zero_add, Nat.reduceMul, Nat.reduceAdd] at *; rw [s0, s1, s2, s3, s4, s5]; omega
  | 14, _ => obtain ⟨s0, s1, s2, s3, s4, s5⟩ := spr_14; simp only [Nat.mul_zero, Nat.zero_add, Nat.reduceMul, Nat.reduceAdd] at *; rw [s0, s1, s2, s3, s4, s5]; omega
  | 15, _ => obtain ⟨s0, s1, s2, s3, s4, s5⟩ := spr_15; simp only [Nat.mul_zero, Nat.zero_add, Nat.reduceMul, Nat.reduceAdd] at *; rw [s0, s1, s2, s3, s4, s5]; omega
  | 16, _ => obtain ⟨s0, s1, s2, s3, s4, s5⟩ := spr_16; simp only [Nat.mul_zero, Nat.zero_add, Nat.reduceMul, Nat.reduceAdd] at *; rw [s0, s1, s2, s3, s4, s5]; omega
  | w + 17, hw => omega
/-- the last word that is so coded -/
noncomputable def fow (e : Int) : Nat → Int
  | 0 => -9
  | k + 1 => if e = cdw k then (k : Int) else fow e k
theorem cdw_inj : ∀ a : Nat, a < 17 → ∀ b : Nat, b < 17 → cdw a = cdw b → a = b := by decide +kernel
theorem fow_no {e : Int} {k : Nat} (h : ∀ w : Nat, w < k → e ≠ cdw w) : fow e k = -9 := by
  induction k with
  | zero => rfl
  | succ k ih => rw [fow, if_neg (h k (by omega)), ih (fun w hw => h w (by omega))]
theorem fow_at {e : Int} {w : Nat} (hw : w < 17) (he : e = cdw w) : ∀ k : Nat, k ≤ 17 → w < k → fow e k = w := by
  intro k
  induction k with
  | zero => intro _ h; omega
  | succ k ih =>
    intro h1 h2
    rw [fow]
    by_cases q : e = cdw k
    · rw [if_pos q, cdw_inj k (by omega) w hw (q.symm.trans he)]
    · rw [if_neg q]
      exact ih (by omega) (by by_cases z : w = k; · subst z; exact absurd he q
                              · omega)
theorem fow_wdx {len : Int} {e : Int} (h : ∀ w : Nat, w < 17 → (e = cdw w ↔ wdm tf p len w)) (hl : len ≤ 5) : fow e 17 = wdx tf p len := by
  unfold wdx
  rw [if_neg (by omega)]
  rcases fst1_rg (P := wdm tf p len) 17 with q | q
  · rw [q.1, fow_no (fun w hw z => q.2 w hw ((h w hw).mp z))]
  · have hw : (fst1 (wdm tf p len) 17).toNat < 17 := by omega
    rw [fow_at hw ((h _ hw).mpr q.2.2.1) 17 (by decide) hw]
    omega
theorem enc_wdx {len : Int} (h1 : 1 ≤ len) (h5 : len ≤ 5) (hc : ∀ j : Int, p ≤ j → j < p + len → 97 ≤ tf j ∧ tf j ≤ 122) : fow (ench tf p len.toNat) 17 = wdx tf p len := by
  refine fow_wdx (fun w hw => ?_) h5
  have c0 := hc p (by omega) (by omega)
  have : len = 1 ∨ len = 2 ∨ len = 3 ∨ len = 4 ∨ len = 5 := by omega
  rcases this with rfl | rfl | rfl | rfl | rfl
  · exact enc_1 c0 w hw
  · exact enc_2 c0 (hc (p + 1) (by omega) (by omega)) w hw
  · exact enc_3 c0 (hc (p + 1) (by omega) (by omega)) (hc (p + 2) (by omega) (by omega)) w hw
  · exact enc_4 c0 (hc (p + 1) (by omega) (by omega)) (hc (p + 2) (by omega) (by omega)) (hc (p + 3) (by omega) (by omega)) w hw
  · exact enc_5 c0 (hc (p + 1) (by omega) (by omega)) (hc (p + 2) (by omega) (by omega)) (hc (p + 3) (by omega) (by omega)) (hc (p + 4) (by omega) (by omega)) w hw
end ENC
def nvs (tf : Int → Int) (p : Int) : Nat → Int
  | 0 => 0
  | k + 1 => if 255 < nvs tf p k then nvs tf p k else 10 * nvs tf p k + tf (p + k) - 48
section NVS
variable {tf : Int → Int} {p : Int}
theorem nvs_1 (c0 : 48 ≤ tf p ∧ tf p ≤ 57) : nvs tf p 1 = tf p - 48 := by
  show (if (255 : Int) < 0 then (0 : Int) else 10 * 0 + tf (p + ((0 : Nat) : Int)) - 48) = _
  rw [if_neg (by decide), show p + ((0 : Nat) : Int) = p by omega]
  omega
theorem nvs_2 (c0 : 48 ≤ tf p ∧ tf p ≤ 57) : nvs tf p 2 = 10 * (tf p - 48) + (tf (p + 1) - 48) := by
  show (if 255 < nvs tf p 1 then nvs tf p 1 else 10 * nvs tf p 1 + tf (p + 1) - 48) = _
  rw [nvs_1 c0, if_neg (by omega)]
  omega
theorem nvs_3 (c0 : 48 ≤ tf p ∧ tf p ≤ 57) (c1 : 48 ≤ tf (p + 1) ∧ tf (p + 1) ≤ 57) : nvs tf p 3 = 10 * (10 * (tf p - 48) + (tf (p + 1) - 48)) + (tf (p + 2) - 48) := by
  show (if 255 < nvs tf p 2 then nvs tf p 2 else 10 * nvs tf p 2 + tf (p + 2) - 48) = _
  rw [nvs_2 c0, if_neg (by omega)]
  omega
theorem nvs_4 (c0 : 49 ≤ tf p ∧ tf p ≤ 57) (c1 : 48 ≤ tf (p + 1) ∧ tf (p + 1) ≤ 57) (c2 : 48 ≤ tf (p + 2) ∧ tf (p + 2) ≤ 57) (c3 : 48 ≤ tf (p + 3) ∧ tf (p + 3) ≤ 57) (k : Nat) : 255 < nvs tf p (k + 4) := by
  induction k with
  | zero =>
    show 255 < (if 255 < nvs tf p 3 then nvs tf p 3 else 10 * nvs tf p 3 + tf (p + 3) - 48)
    rw [nvs_3 ⟨by omega, by omega⟩ c1]
    split <;> omega
  | succ k ih =>
    show 255 < (if 255 < nvs tf p (k + 4) then nvs tf p (k + 4) else _)
    rw [if_pos ih]
    exact ih
theorem nvs_rg (k : Nat) (hc : ∀ j : Nat, j < k → 48 ≤ tf (p + j) ∧ tf (p + j) ≤ 57) : 0 ≤ nvs tf p k ∧ nvs tf p k ≤ 2559 := by
  induction k with
  | zero => exact (⟨by decide, by decide⟩ : (0 : Int) ≤ 0 ∧ (0 : Int) ≤ 2559)
  | succ k ih =>
    have i := ih (fun j hj => hc j (by omega))
    have c := hc k (by omega)
    rw [nvs]
    split <;> omega
/-- a number, by the reference's way and by the class's -/
theorem nv_rel {len : Int} (h1 : 1 ≤ len) (hc : ∀ j : Int, p ≤ j → j < p + len → 48 ≤ tf j ∧ tf j ≤ 57) : ((255 < nvs tf p len.toNat ∨ (tf p = 48 ∧ 1 < len)) → nval tf p len = -9) ∧ (¬ (255 < nvs tf p len.toNat ∨ (tf p = 48 ∧ 1 < len)) → nval tf p len = nvs tf p len.toNat ∧ nval tf p len ≠ -9) := by
  have c0 := hc p (by omega) (by omega)
  have : len = 1 ∨ len = 2 ∨ len = 3 ∨ 4 ≤ len := by omega
  rcases this with rfl | rfl | rfl | h4
  · rw [show (1 : Int).toNat = 1 from rfl, nvs_1 c0, nval_1]
    exact ⟨fun q => by omega, fun q => ⟨rfl, by omega⟩⟩
  · have c1 := hc (p + 1) (by omega) (by omega)
    rw [show (2 : Int).toNat = 2 from rfl, nvs_2 c0]
    by_cases z : tf p = 48
    · exact ⟨fun _ => nval_z (by decide) z, fun q => by omega⟩
    · rw [nval_2 z]
      exact ⟨fun q => by omega, fun q => ⟨rfl, by omega⟩⟩
  · have c1 := hc (p + 1) (by omega) (by omega)
    have c2 := hc (p + 2) (by omega) (by omega)
    rw [show (3 : Int).toNat = 3 from rfl, nvs_3 c0 c1]
    by_cases z : tf p = 48
    · exact ⟨fun _ => nval_z (by decide) z, fun q => by omega⟩
    · by_cases y : 255 < 10 * (10 * (tf p - 48) + (tf (p + 1) - 48)) + (tf (p + 2) - 48)
      · exact ⟨fun _ => nval_3b z y, fun q => by omega⟩
      · rw [nval_3a z (by omega)]
        exact ⟨fun q => by omega, fun q => ⟨rfl, by omega⟩⟩
  · refine ⟨fun _ => nval_4 (by omega), fun q => ?_⟩
    have c1 := hc (p + 1) (by omega) (by omega)
    have c2 := hc (p + 2) (by omega) (by omega)
    have c3 := hc (p + 3) (by omega) (by omega)
    have := nvs_4 (tf := tf) (p := p) ⟨by omega, by omega⟩ c1 c2 c3 (len.toNat - 4)
    rw [show len.toNat - 4 + 4 = len.toNat by omega] at this
    omega
end NVS
theorem ench_rg {tf : Int → Int} {p : Int} (k : Nat) (hc : ∀ j : Nat, j < k → 97 ≤ tf (p + j) ∧ tf (p + j) ≤ 122) : 0 ≤ ench tf p k ∧ ench tf p k < 27 ^ k := by
  induction k with
  | zero => exact (⟨by decide, by decide⟩ : (0 : Int) ≤ 0 ∧ (0 : Int) < 27 ^ 0)
  | succ k ih =>
    have i := ih (fun j hj => hc j (by omega))
    have c := hc k (by omega)
    rw [ench, Int.pow_succ]
    omega
theorem ench_6 {tf : Int → Int} {p : Int} (k : Nat) (hk : k ≤ 6) (hc : ∀ j : Nat, j < k → 97 ≤ tf (p + j) ∧ tf (p + j) ≤ 122) : 0 ≤ ench tf p k ∧ ench tf p k < 387420489 := by
  have h := ench_rg k hc
  have : k = 0 ∨ k = 1 ∨ k = 2 ∨ k = 3 ∨ k = 4 ∨ k = 5 ∨ k = 6 := by omega
  rcases this with rfl | rfl | rfl | rfl | rfl | rfl | rfl
  · exact ⟨h.1, by have h2 := h.2; rw [show (27 : Int) ^ 0 = 1 by decide] at h2; omega⟩
  · exact ⟨h.1, by have h2 := h.2; rw [show (27 : Int) ^ 1 = 27 by decide] at h2; omega⟩
  · exact ⟨h.1, by have h2 := h.2; rw [show (27 : Int) ^ 2 = 729 by decide] at h2; omega⟩
  · exact ⟨h.1, by have h2 := h.2; rw [show (27 : Int) ^ 3 = 19683 by decide] at h2; omega⟩
  · exact ⟨h.1, by have h2 := h.2; rw [show (27 : Int) ^ 4 = 531441 by decide] at h2; omega⟩
  · exact ⟨h.1, by have h2 := h.2; rw [show (27 : Int) ^ 5 = 14348907 by decide] at h2; omega⟩
  · exact ⟨h.1, by have h2 := h.2; rw [show (27 : Int) ^ 6 = 387420489 by decide] at h2; omega⟩
def okB (f : Nat → Int32) : Prop := ∀ j : Nat, -128 ≤ (f j).toInt ∧ (f j).toInt ≤ 127
theorem hb_sm {f : Nat → Int32} (h : okB f) {j : Int} (hc : 97 ≤ hb f j ∧ hb f j ≤ 122) : (f j.toNat).toInt = hb f j := by
  have := h j.toNat
  unfold hb at hc ⊢
  omega
/-- what next leaves -/
def nxF (tn : Int) (tf : Int → Int) (pa st so va pa1 ed : Int) : Prop := st = gapE tn tf 0 pa ∧ ed = pa ∧ ((tn ≤ st ∧ so = 0 ∧ pa1 = st) ∨ (st < tn ∧ so = tkK tn tf st ∧ pa1 = tkE tn tf st ∧ (so = 1 ∨ so = 2 ∨ so = 3 → va = tkV tn tf st)))
theorem dg_s {tx : Nat → Int32} {bs st pa : Int} (hD : ∀ j : Int, st ≤ j → j < pa → 48 ≤ hb tx (bs + j) ∧ hb tx (bs + j) ≤ 57) (h : 48 ≤ hb tx (bs + pa) ∧ hb tx (bs + pa) ≤ 57) : ∀ j : Int, st ≤ j → j < pa + 1 → 48 ≤ hb tx (bs + j) ∧ hb tx (bs + j) ≤ 57 := by
  intro j h1 h2
  by_cases e : j = pa
  · subst e
    exact h
  · exact hD j h1 (by omega)
