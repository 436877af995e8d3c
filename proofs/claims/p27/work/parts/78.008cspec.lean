/-! the class's loop over a run -/
def gtI (RES : Int × MS) (tn : Int) (tf : Int → Int) (q j hm a x p e d t c : Int) (m ou ol : Nat → Int) : Prop := (q = 1 ∧ d = j ∧ mgo tn tf (5000 - d).toNat (a, x, p, e, d, t, c, m, ou, ol) = RES) ∨ (q = 0 ∧ goR RES hm a x p e d t c m ou ol)
section GTI
variable {RES : Int × MS} {tn : Int} {tf : Int → Int} {q j j1 hm a x p e d t c : Int} {m ou ol : Nat → Int} {a1 x1 p1 e1 t1 c1 : Int} {m1 ou1 ol1 : Nat → Int}
theorem gtI_1 (h : gtI RES tn tf q j hm a x p e d t c m ou ol) (hq : q = 1) : d = j ∧ mgo tn tf (5000 - d).toNat (a, x, p, e, d, t, c, m, ou, ol) = RES := by
  rcases h with h | h
  · exact h.2
  · omega
theorem gtI_0 (h : gtI RES tn tf q j hm a x p e d t c m ou ol) (hq : q = 0) : goR RES hm a x p e d t c m ou ol := by
  rcases h with h | h
  · omega
  · exact h.2
theorem gtI_harm (hm0 : hm ≠ 0) (hR : mgo tn tf (5000 - d).toNat (a, x, p, e, d, t, c, m, ou, ol) = RES) (h : hcM p c m ∨ d = 5000) : gtI RES tn tf 0 j1 hm a x p e d t c m ou ol := by
  refine Or.inr ⟨rfl, ?_⟩
  unfold goR
  rw [if_neg hm0, ← hR]
  rcases h with h | h
  · cases (5000 - d).toNat with
    | zero => rfl
    | succ k => exact mgo_hc h
  · subst h
    rfl
theorem gtI_stop (hR : mgo tn tf (5000 - d).toNat (a, x, p, e, d, t, c, m, ou, ol) = RES) (hn : ¬ hcM p c m) (ho : m p.toNat = 0) (hd : d < 5000) (he : mstp tn tf a x p e d t c m ou ol = (a1, x1, p1, e1, d + 1, t1, c1, m1, ou1, ol1)) : gtI RES tn tf 0 j1 0 a1 x1 p1 e1 (d + 1) t1 c1 m1 ou1 ol1 := by
  refine Or.inr ⟨rfl, ?_⟩
  unfold goR
  rw [if_pos rfl, ← hR, show (5000 - d).toNat = (4999 - d).toNat + 1 by omega, mgo_no hn, if_pos ho, he]
theorem gtI_on (hR : mgo tn tf (5000 - d).toNat (a, x, p, e, d, t, c, m, ou, ol) = RES) (hn : ¬ hcM p c m) (ho : m p.toNat ≠ 0) (hd : d < 5000) (hj : d + 1 = j1) (he : mstp tn tf a x p e d t c m ou ol = (a1, x1, p1, e1, d + 1, t1, c1, m1, ou1, ol1)) : gtI RES tn tf 1 j1 hm a1 x1 p1 e1 (d + 1) t1 c1 m1 ou1 ol1 := by
  refine Or.inl ⟨rfl, hj, ?_⟩
  rw [← hR, show (5000 - d).toNat = (5000 - (d + 1)).toNat + 1 by omega, mgo_no hn, if_neg ho, he]
end GTI
/-- 0, or 1 and the first place at which both are unlike or one of both ends -/
noncomputable def ulk (n1 : Int) (f1 : Nat → Int) (n2 : Int) (f2 : Nat → Int) : Int := if fst1 (fun j => f1 j ≠ f2 j) (min n1 n2).toNat = -9 then (if n1 = n2 then 0 else 1 + min n1 n2) else 1 + fst1 (fun j => f1 j ≠ f2 j) (min n1 n2).toNat
theorem ulk_at {n1 n2 j : Int} {f1 f2 : Nat → Int} (h0 : 0 ≤ j) (h1 : j < min n1 n2) (hN : fst1 (fun j => f1 j ≠ f2 j) j.toNat = -9) (hd : f1 j.toNat ≠ f2 j.toNat) : ulk n1 f1 n2 f2 = 1 + j := by
  have e : fst1 (fun j => f1 j ≠ f2 j) (min n1 n2).toNat = j := by
    refine fst1_eq h0 (by omega) hd (fun i hi z => ?_)
    rcases fst1_rg (P := fun j => f1 j ≠ f2 j) j.toNat with q | q
    · exact q.2 i (by omega) z
    · omega
  unfold ulk
  rw [e, if_neg (by omega)]
theorem ulk_no {n1 n2 : Int} {f1 f2 : Nat → Int} (hN : fst1 (fun j => f1 j ≠ f2 j) (min n1 n2).toNat = -9) : ulk n1 f1 n2 f2 = if n1 = n2 then 0 else 1 + min n1 n2 := by
  unfold ulk
  rw [if_pos hN]
theorem ulk_cg {n1 n2 : Int} {f1 f2 g1 g2 : Nat → Int} (h1 : ∀ j : Nat, (j : Int) < n1 → f1 j = g1 j) (h2 : ∀ j : Nat, (j : Int) < n2 → f2 j = g2 j) : ulk n1 f1 n2 f2 = ulk n1 g1 n2 g2 := by
  have : fst1 (fun j => f1 j ≠ f2 j) (min n1 n2).toNat = fst1 (fun j => g1 j ≠ g2 j) (min n1 n2).toNat := fst1_cg (fun j hj => by rw [h1 j (by omega), h2 j (by omega)])
  unfold ulk
  rw [this]
/-- how many bytes are no orders -/
def bey (f : Nat → Int) : Nat → Int
  | 0 => 0
  | n + 1 => bey f n + (if 15 < f n then 1 else 0)
theorem bey_cg {f g : Nat → Int} {n : Nat} (h : ∀ j : Nat, j < n → f j = g j) : bey f n = bey g n := by
  induction n with
  | zero => rfl
  | succ n ih => rw [bey, bey, ih (fun j hj => h j (by omega)), h n (by omega)]
