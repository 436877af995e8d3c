/-! makers and machines over SC2, as functions -/
/-- a run that builds -/
def bldOk (R : Int × MS) : Prop := R.1 = 0 ∧ 0 < msC R.2
theorem rnR_ok {R : Int × MS} {hm a x p e d t c : Int} {m ou ol : Nat → Int} (h : rnR R hm a x p e d t c m ou ol) : bldOk R ↔ hm = 0 ∧ 0 < c := by
  obtain ⟨h1, -, -, -, -, -, -, h2, -⟩ := h
  unfold bldOk msC
  rw [h1, h2]
  by_cases q : hm = 0
  · rw [if_pos q]
    constructor
    · intro z; exact ⟨q, z.2⟩
    · intro z; exact ⟨rfl, z.2⟩
  · rw [if_neg q]
    constructor
    · intro z; exact absurd z.1 (by decide)
    · intro z; exact absurd z.1 q
section SC2L
variable {l : Launch} {h : MH} {Q : Option Value → MH → Prop} {t : Nat} {tn : Int} {tf : Nat → Int}
theorem sc2_pf (H : SC2 h) (T0 : h[t]? = some (.inr (5, [.ref (t + 1), .int (iZ tn)]))) (T1 : h[t + 1]? = some (.inl (0, 200, .inl (zA tf)))) (ot : oki 0 255 tf) (rt : 0 ≤ tn ∧ tn ≤ 200) (hT : 30 < t) (k : ∀ (h1 : MH) (r n : Int) (f g : Nat → Int), (r = -9 ∨ (0 ≤ r ∧ r ≤ 200)) → prR (prsE tn (fun j => tf j.toNat)) r n f g → PKx h1 n f g → SC2 h1 → Sm [6, 7, 8] h h1 → Q (some (.int (iZ r))) h1) : Go l mX5_faultIn 0 [some (.ref 5), some (.ref t), none, none, none, none] [] h Q := by
  obtain ⟨⟨n, f, g, a1, a2, a3, b0, b1, b2, b3⟩, H2, H3, H4⟩ := H
  refine c_pf b0 b1 b2 b3 T0 T1 a2 a3 ot a1 rt (by omega) (fun h1 n1 f1 g1 r r1 r2 r3 r4 e s u1 u2 u3 => ?_)
  have z : ∀ q, q ∈ [6, 7, 8] → 6 ≤ q ∧ q ≤ 8 := by decide
  have gg : ∀ q, (q < 6 ∨ 8 < q) → ∀ y : va_E, h[q]? = some y → h1[q]? = some y := fun q hq y ha => s.get (fun hz => by have := z q hz; omega) ha
  have P1 : PKx h1 n1 f1 g1 := ⟨r1, r2, r3, gg 5 (by omega) _ b0, u1, u2, u3⟩
  exact k h1 r n1 f1 g1 r4 e P1 ⟨⟨n1, f1, g1, P1⟩, H2.kp (fun q a b => gg q (by omega)), H3.kp (fun q a b => gg q (by omega)), H4.kp (fun q a b => gg q (by omega))⟩ s
theorem sc2_nf (H : SC2 h) (T0 : h[t]? = some (.inr (5, [.ref (t + 1), .int (iZ tn)]))) (T1 : h[t + 1]? = some (.inl (0, 200, .inl (zA tf)))) (ot : oki 0 255 tf) (rt : 0 ≤ tn ∧ tn ≤ 200) (hT : 30 < t) (k : ∀ (h1 : MH) (r n : Int) (f g : Nat → Int), (r = -9 ∨ (0 ≤ r ∧ r ≤ 300)) → nrR (namE tn (fun j => tf j.toNat)) r n f g → NKx h1 n f g → SC2 h1 → Sm [9, 10, 11, 12, 13, 14] h h1 → Q (some (.int (iZ r))) h1) : Go l mX4_faultIn 0 [some (.ref 9), some (.ref t), none, none, none] [] h Q := by
  obtain ⟨H1, ⟨n, f, g, due, la, pl, lu, a1, a2, a3, a4, a5, a6, a7, b0, b1, b2, b3, b4, b5⟩, H3, H4⟩ := H
  refine c_nf b0 b1 b2 b3 b4 b5 T0 T1 a6 a7 a4 a5 ot a1 a2 a3 rt (by omega) (fun h1 due1 la1 n1 f1 g1 pl1 lu1 r r1 r2 r3 r4 r5 r6 r7 r8 e s u0 u1 u2 u3 u4 u5 => ?_)
  have z : ∀ q, q ∈ [9, 10, 11, 12, 13, 14] → 9 ≤ q ∧ q ≤ 14 := by decide
  have gg : ∀ q, (q < 9 ∨ 14 < q) → ∀ y : va_E, h[q]? = some y → h1[q]? = some y := fun q hq y ha => s.get (fun hz => by have := z q hz; omega) ha
  have P1 : NKx h1 n1 f1 g1 := ⟨due1, la1, pl1, lu1, r1, r2, r3, r6, r7, r4, r5, u0, u1, u2, u3, u4, u5⟩
  exact k h1 r n1 f1 g1 r8 e P1 ⟨H1.kp (fun q a b => gg q (by omega)), ⟨n1, f1, g1, P1⟩, H3.kp (fun q a b => gg q (by omega)), H4.kp (fun q a b => gg q (by omega))⟩ s
theorem sc2_bl {m c M : Nat} {n : Int} {f g : Nat → Int} (hm : m = 20 ∨ m = 25) (H : SC2 h) (C0 : h[c]? = some (.inr (0, [.int (iZ (M : Int)), .ref (c + 1), .ref (c + 2), .int (iZ n)]))) (C1 : h[c + 1]? = some (.inl (0, M, .inl (zA f)))) (C2 : h[c + 2]? = some (.inl (0, M, .inl (zA g)))) (o1 : oki 0 255 f) (o2 : oki 0 300 g) (rn : 0 ≤ n ∧ n ≤ 256) (hM : M ≤ 256) (hnM : n ≤ M) (hc : c = m + 2 ∨ c + 2 < m ∨ m + 4 < c) (T0 : h[t]? = some (.inr (5, [.ref (t + 1), .int (iZ tn)]))) (T1 : h[t + 1]? = some (.inl (0, 200, .inl (zA tf)))) (ot : oki 0 255 tf) (rt : 0 ≤ tn ∧ tn ≤ 200) (hT : 30 < t) (k : ∀ (h1 : MH) (r a x p e d t1 hm1 c1 : Int) (mm of og : Nat → Int), ((r = 1 ∧ bldOk (run0 tn (fun j => tf j.toNat) n f)) ∨ (r = 0 ∧ ¬ bldOk (run0 tn (fun j => tf j.toNat) n f))) → rnR (run0 tn (fun j => tf j.toNat) n f) hm1 a x p e d t1 c1 mm of og → MCx h1 m a x p e d t1 hm1 c1 mm of og → SC2 h1 → Sm [m, m + 1, m + 2, m + 3, m + 4] h h1 → Q (some (.int (iZ r))) h1) : Go l mX2_builds 0 [some (.ref m), some (.ref c), some (.ref t)] [] h Q := by
  obtain ⟨a, x, p, e, d, t0, hm1, c0, mm, of, og, a1, a2, a3, a4, a5, a6, a7, a8, a9, a10, a11, b0, b1, b2, b3, b4⟩ := H.m hm
  refine c_blds b0 b1 b2 b3 b4 C0 C1 C2 T0 T1 a9 a10 a11 o1 o2 ot a1 a2 a3 a4 a5 a6 a7 a8 rn rt hM hnM (by omega) (by omega) (by omega) (by omega) (fun h1 a' x' p' e' d' t' hm' c' mm' of' og' r r1 r2 r3 r4 r5 r6 r7 r8 r9 r10 r11 rr gr s u0 u1 u2 u3 u4 => ?_)
  have hx : MCx h1 m a' x' p' e' d' t' hm' c' mm' of' og' := ⟨r1, r2, r3, r4, r5, r6, r7, r8, r9, r10, r11, u0, u1, u2, u3, u4⟩
  have hr := goR_0 gr
  obtain ⟨q1, -⟩ := sc2_upd hm H s ⟨_, _, _, _, _, _, _, _, _, _, _, hx⟩
  refine k h1 r a' x' p' e' d' t' hm' c' mm' of' og' ?_ hr hx q1 s
  rw [rnR_ok hr]
  omega
theorem sc2_go {m c M : Nat} {n : Int} {f g : Nat → Int} (hm : m = 20 ∨ m = 25) (H : SC2 h) (C0 : h[c]? = some (.inr (0, [.int (iZ (M : Int)), .ref (c + 1), .ref (c + 2), .int (iZ n)]))) (C1 : h[c + 1]? = some (.inl (0, M, .inl (zA f)))) (C2 : h[c + 2]? = some (.inl (0, M, .inl (zA g)))) (o1 : oki 0 255 f) (o2 : oki 0 300 g) (rn : 0 ≤ n ∧ n ≤ 256) (hM : M ≤ 256) (hnM : n ≤ M) (hc : c = m + 2 ∨ c + 2 < m ∨ m + 4 < c) (T0 : h[t]? = some (.inr (5, [.ref (t + 1), .int (iZ tn)]))) (T1 : h[t + 1]? = some (.inl (0, 200, .inl (zA tf)))) (ot : oki 0 255 tf) (rt : 0 ≤ tn ∧ tn ≤ 200) (hT : 30 < t) (k : ∀ (h1 : MH) (a x p e d t1 hm1 c1 : Int) (mm of og : Nat → Int), rnR (run0 tn (fun j => tf j.toNat) n f) hm1 a x p e d t1 c1 mm of og → MCx h1 m a x p e d t1 hm1 c1 mm of og → SC2 h1 → Sm [m, m + 1, m + 2, m + 3, m + 4] h h1 → Q none h1) : Go l mX2_goThrough 0 [some (.ref m), some (.ref c), some (.ref t), none, none, none] [] h Q := by
  obtain ⟨a, x, p, e, d, t0, hm1, c0, mm, of, og, a1, a2, a3, a4, a5, a6, a7, a8, a9, a10, a11, b0, b1, b2, b3, b4⟩ := H.m hm
  refine c_go b0 b1 b2 b3 b4 C0 C1 C2 T0 T1 a9 a10 a11 o1 o2 ot a1 a2 a3 a4 a5 a6 a7 a8 rn rt hM hnM (by omega) (by omega) (by omega) (by omega) (fun h1 a' x' p' e' d' t' hm' c' mm' of' og' r1 r2 r3 r4 r5 r6 r7 r8 r9 r10 r11 gr s u0 u1 u2 u3 u4 => ?_)
  have hx : MCx h1 m a' x' p' e' d' t' hm' c' mm' of' og' := ⟨r1, r2, r3, r4, r5, r6, r7, r8, r9, r10, r11, u0, u1, u2, u3, u4⟩
  obtain ⟨q1, -⟩ := sc2_upd hm H s ⟨_, _, _, _, _, _, _, _, _, _, _, hx⟩
  exact k h1 a' x' p' e' d' t' hm' c' mm' of' og' (goR_0 gr) hx q1 s
/-- the run that is told of -/
theorem lm_go {c M : Nat} {n : Int} {f g q lm lo : Nat → Int} (H : LM h q lm lo) (C0 : h[c]? = some (.inr (0, [.int (iZ (M : Int)), .ref (c + 1), .ref (c + 2), .int (iZ n)]))) (C1 : h[c + 1]? = some (.inl (0, M, .inl (zA f)))) (C2 : h[c + 2]? = some (.inl (0, M, .inl (zA g)))) (o1 : oki 0 255 f) (o2 : oki 0 300 g) (rn : 0 ≤ n ∧ n ≤ 256) (hM : M ≤ 256) (hnM : n ≤ M) (hc : 19 < c) (T0 : h[t]? = some (.inr (5, [.ref (t + 1), .int (iZ tn)]))) (T1 : h[t + 1]? = some (.inl (0, 200, .inl (zA tf)))) (ot : oki 0 255 tf) (rt : 0 ≤ tn ∧ tn ≤ 200) (hT : 30 < t) (k : ∀ (h1 : MH) (a x p e d t1 hm1 c1 : Int) (mm of og : Nat → Int), rnR (run0 tn (fun j => tf j.toNat) n f) hm1 a x p e d t1 c1 mm of og → MCx h1 15 a x p e d t1 hm1 c1 mm of og → Sm [15, 16, 17, 18, 19] h h1 → Q none h1) : Go l mX2_goThrough 0 [some (.ref 15), some (.ref c), some (.ref t), none, none, none] [] h Q := by
  obtain ⟨e, hm1, og, a1, a2, a3, a4, a5, a6, a7, a8, a9, a10, a11, b0, b1, b2, b3, b4⟩ := H
  refine c_go (m := 15) b0 b1 b2 b3 b4 C0 C1 C2 T0 T1 a9 a10 a11 o1 o2 ot a1 a2 a3 a4 a5 a6 a7 a8 rn rt hM hnM (by omega) (by omega) (by omega) (by omega) (fun h1 a' x' p' e' d' t' hm' c' mm' of' og' r1 r2 r3 r4 r5 r6 r7 r8 r9 r10 r11 gr s u0 u1 u2 u3 u4 => ?_)
  exact k h1 a' x' p' e' d' t' hm' c' mm' of' og' (goR_0 gr) ⟨r1, r2, r3, r4, r5, r6, r7, r8, r9, r10, r11, u0, u1, u2, u3, u4⟩ s
end SC2L
