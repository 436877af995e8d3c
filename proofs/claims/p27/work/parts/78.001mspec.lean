/-! what the machine does, order by order -/
abbrev MS : Type := Int × Int × Int × Int × Int × Int × Int × (Nat → Int) × (Nat → Int) × (Nat → Int)
def mstpK (K : Nat) (tn : Int) (tf : Int → Int) (a x p e d t c : Int) (m ou ol : Nat → Int) : MS := match K with
  | 0 => (a, x, (p + 1) % 256, e, d + 1, t, c, m, ou, ol)
  | 1 => if t < tn then (tf t, x, (p + 1) % 256, e, d + 1, t + 1, c, m, ou, ol) else (0, x, (p + 1) % 256, 1, d + 1, t, c, m, ou, ol)
  | 2 => (a, x, (p + 1) % 256, e, d + 1, t, c + 1, m, va_up ou c.toNat a, va_up ol c.toNat (if t = 0 then 0 else t - 1))
  | 3 => (m ((p + 1) % 256).toNat, x, (p + 2) % 256, e, d + 1, t, c, m, ou, ol)
  | 4 => (m (m ((p + 1) % 256).toNat).toNat, x, (p + 2) % 256, e, d + 1, t, c, m, ou, ol)
  | 5 => (a, x, (p + 2) % 256, e, d + 1, t, c, va_up m (m ((p + 1) % 256).toNat).toNat a, ou, ol)
  | 6 => ((a + m (m ((p + 1) % 256).toNat).toNat) % 256, x, (p + 2) % 256, e, d + 1, t, c, m, ou, ol)
  | 7 => ((a - m (m ((p + 1) % 256).toNat).toNat) % 256, x, (p + 2) % 256, e, d + 1, t, c, m, ou, ol)
  | 8 => (m x.toNat, x, (p + 1) % 256, e, d + 1, t, c, m, ou, ol)
  | 9 => (a, x, (p + 1) % 256, e, d + 1, t, c, va_up m x.toNat a, ou, ol)
  | 10 => (a, a, (p + 1) % 256, e, d + 1, t, c, m, ou, ol)
  | 11 => (a, x, m ((p + 1) % 256).toNat, e, d + 1, t, c, m, ou, ol)
  | 12 => if a = 0 then (a, x, m ((p + 1) % 256).toNat, e, d + 1, t, c, m, ou, ol) else (a, x, (p + 2) % 256, e, d + 1, t, c, m, ou, ol)
  | 13 => if e = 1 then (a, x, m ((p + 1) % 256).toNat, e, d + 1, t, c, m, ou, ol) else (a, x, (p + 2) % 256, e, d + 1, t, c, m, ou, ol)
  | 14 => ((a + m ((p + 1) % 256).toNat) % 256, x, (p + 2) % 256, e, d + 1, t, c, m, ou, ol)
  | _ => if 128 ≤ a then (a, x, m ((p + 1) % 256).toNat, e, d + 1, t, c, m, ou, ol) else (a, x, (p + 2) % 256, e, d + 1, t, c, m, ou, ol)
def mstp (tn : Int) (tf : Int → Int) (a x p e d t c : Int) (m ou ol : Nat → Int) : MS := mstpK (m p.toNat).toNat tn tf a x p e d t c m ou ol
section MST
variable {tn : Int} {tf : Int → Int} {a x p e d t c : Int} {m ou ol : Nat → Int}
theorem ms_0 (hK : (m p.toNat).toNat = 0) : mstp tn tf a x p e d t c m ou ol = (a, x, (p + 1) % 256, e, d + 1, t, c, m, ou, ol) := (congrArg (fun K => mstpK K tn tf a x p e d t c m ou ol) hK).trans rfl
theorem ms_1a (hK : (m p.toNat).toNat = 1) (h : t < tn) : mstp tn tf a x p e d t c m ou ol = (tf t, x, (p + 1) % 256, e, d + 1, t + 1, c, m, ou, ol) := (congrArg (fun K => mstpK K tn tf a x p e d t c m ou ol) hK).trans (if_pos h)
theorem ms_1b (hK : (m p.toNat).toNat = 1) (h : ¬ t < tn) : mstp tn tf a x p e d t c m ou ol = (0, x, (p + 1) % 256, 1, d + 1, t, c, m, ou, ol) := (congrArg (fun K => mstpK K tn tf a x p e d t c m ou ol) hK).trans (if_neg h)
theorem ms_2 (hK : (m p.toNat).toNat = 2) : mstp tn tf a x p e d t c m ou ol = (a, x, (p + 1) % 256, e, d + 1, t, c + 1, m, va_up ou c.toNat a, va_up ol c.toNat (if t = 0 then 0 else t - 1)) := (congrArg (fun K => mstpK K tn tf a x p e d t c m ou ol) hK).trans rfl
theorem ms_3 (hK : (m p.toNat).toNat = 3) : mstp tn tf a x p e d t c m ou ol = (m ((p + 1) % 256).toNat, x, (p + 2) % 256, e, d + 1, t, c, m, ou, ol) := (congrArg (fun K => mstpK K tn tf a x p e d t c m ou ol) hK).trans rfl
theorem ms_4 (hK : (m p.toNat).toNat = 4) : mstp tn tf a x p e d t c m ou ol = (m (m ((p + 1) % 256).toNat).toNat, x, (p + 2) % 256, e, d + 1, t, c, m, ou, ol) := (congrArg (fun K => mstpK K tn tf a x p e d t c m ou ol) hK).trans rfl
theorem ms_5 (hK : (m p.toNat).toNat = 5) : mstp tn tf a x p e d t c m ou ol = (a, x, (p + 2) % 256, e, d + 1, t, c, va_up m (m ((p + 1) % 256).toNat).toNat a, ou, ol) := (congrArg (fun K => mstpK K tn tf a x p e d t c m ou ol) hK).trans rfl
theorem ms_6 (hK : (m p.toNat).toNat = 6) : mstp tn tf a x p e d t c m ou ol = ((a + m (m ((p + 1) % 256).toNat).toNat) % 256, x, (p + 2) % 256, e, d + 1, t, c, m, ou, ol) := (congrArg (fun K => mstpK K tn tf a x p e d t c m ou ol) hK).trans rfl
theorem ms_7 (hK : (m p.toNat).toNat = 7) : mstp tn tf a x p e d t c m ou ol = ((a - m (m ((p + 1) % 256).toNat).toNat) % 256, x, (p + 2) % 256, e, d + 1, t, c, m, ou, ol) := (congrArg (fun K => mstpK K tn tf a x p e d t c m ou ol) hK).trans rfl
theorem ms_8 (hK : (m p.toNat).toNat = 8) : mstp tn tf a x p e d t c m ou ol = (m x.toNat, x, (p + 1) % 256, e, d + 1, t, c, m, ou, ol) := (congrArg (fun K => mstpK K tn tf a x p e d t c m ou ol) hK).trans rfl
theorem ms_9 (hK : (m p.toNat).toNat = 9) : mstp tn tf a x p e d t c m ou ol = (a, x, (p + 1) % 256, e, d + 1, t, c, va_up m x.toNat a, ou, ol) := (congrArg (fun K => mstpK K tn tf a x p e d t c m ou ol) hK).trans rfl
theorem ms_10 (hK : (m p.toNat).toNat = 10) : mstp tn tf a x p e d t c m ou ol = (a, a, (p + 1) % 256, e, d + 1, t, c, m, ou, ol) := (congrArg (fun K => mstpK K tn tf a x p e d t c m ou ol) hK).trans rfl
theorem ms_11 (hK : (m p.toNat).toNat = 11) : mstp tn tf a x p e d t c m ou ol = (a, x, m ((p + 1) % 256).toNat, e, d + 1, t, c, m, ou, ol) := (congrArg (fun K => mstpK K tn tf a x p e d t c m ou ol) hK).trans rfl
theorem ms_12a (hK : (m p.toNat).toNat = 12) (h : a = 0) : mstp tn tf a x p e d t c m ou ol = (a, x, m ((p + 1) % 256).toNat, e, d + 1, t, c, m, ou, ol) := (congrArg (fun K => mstpK K tn tf a x p e d t c m ou ol) hK).trans (if_pos h)
theorem ms_12b (hK : (m p.toNat).toNat = 12) (h : ¬ a = 0) : mstp tn tf a x p e d t c m ou ol = (a, x, (p + 2) % 256, e, d + 1, t, c, m, ou, ol) := (congrArg (fun K => mstpK K tn tf a x p e d t c m ou ol) hK).trans (if_neg h)
theorem ms_13a (hK : (m p.toNat).toNat = 13) (h : e = 1) : mstp tn tf a x p e d t c m ou ol = (a, x, m ((p + 1) % 256).toNat, e, d + 1, t, c, m, ou, ol) := (congrArg (fun K => mstpK K tn tf a x p e d t c m ou ol) hK).trans (if_pos h)
theorem ms_13b (hK : (m p.toNat).toNat = 13) (h : ¬ e = 1) : mstp tn tf a x p e d t c m ou ol = (a, x, (p + 2) % 256, e, d + 1, t, c, m, ou, ol) := (congrArg (fun K => mstpK K tn tf a x p e d t c m ou ol) hK).trans (if_neg h)
theorem ms_14 (hK : (m p.toNat).toNat = 14) : mstp tn tf a x p e d t c m ou ol = ((a + m ((p + 1) % 256).toNat) % 256, x, (p + 2) % 256, e, d + 1, t, c, m, ou, ol) := (congrArg (fun K => mstpK K tn tf a x p e d t c m ou ol) hK).trans rfl
theorem ms_15a (hK : (m p.toNat).toNat = 15) (h : 128 ≤ a) : mstp tn tf a x p e d t c m ou ol = (a, x, m ((p + 1) % 256).toNat, e, d + 1, t, c, m, ou, ol) := (congrArg (fun K => mstpK K tn tf a x p e d t c m ou ol) hK).trans (if_pos h)
theorem ms_15b (hK : (m p.toNat).toNat = 15) (h : ¬ 128 ≤ a) : mstp tn tf a x p e d t c m ou ol = (a, x, (p + 2) % 256, e, d + 1, t, c, m, ou, ol) := (congrArg (fun K => mstpK K tn tf a x p e d t c m ou ol) hK).trans (if_neg h)
end MST
def hcM (p c : Int) (m : Nat → Int) : Prop := 15 < m p.toNat ∨ (m p.toNat = 2 ∧ c = 256)
/-- a run of at most k orders: whether there was HARM, and what it leaves -/
noncomputable def mgo (tn : Int) (tf : Int → Int) : Nat → MS → Int × MS
  | 0, s => (1, s)
  | k + 1, (a, x, p, e, d, t, c, m, ou, ol) => @ite (Int × MS) (hcM p c m) (Classical.propDecidable _) (1, (a, x, p, e, d, t, c, m, ou, ol)) (if m p.toNat = 0 then (0, mstp tn tf a x p e d t c m ou ol) else mgo tn tf k (mstp tn tf a x p e d t c m ou ol))
/-- one step: 1, 2 HARM; -1 stop; 0 on -/
def stpR (tn : Int) (tf : Int → Int) (r a x p e d t c : Int) (m ou ol : Nat → Int) (a1 x1 p1 e1 d1 t1 c1 : Int) (m1 ou1 ol1 : Nat → Int) : Prop :=
  ((r = 1 ∨ r = 2) ∧ hcM p c m ∧ (a, x, p, e, d, t, c, m, ou, ol) = (a1, x1, p1, e1, d1, t1, c1, m1, ou1, ol1)) ∨ (r = -1 ∧ ¬ hcM p c m ∧ m p.toNat = 0 ∧ mstp tn tf a x p e d t c m ou ol = (a1, x1, p1, e1, d1, t1, c1, m1, ou1, ol1)) ∨ (r = 0 ∧ ¬ hcM p c m ∧ m p.toNat ≠ 0 ∧ mstp tn tf a x p e d t c m ou ol = (a1, x1, p1, e1, d1, t1, c1, m1, ou1, ol1))
section MGO
variable {tn : Int} {tf : Int → Int} {a x p e d t c : Int} {m ou ol : Nat → Int} {r a1 x1 p1 e1 d1 t1 c1 : Int} {m1 ou1 ol1 : Nat → Int}
theorem mgo_hc {k : Nat} (h : hcM p c m) : mgo tn tf (k + 1) (a, x, p, e, d, t, c, m, ou, ol) = (1, (a, x, p, e, d, t, c, m, ou, ol)) := by
  rw [mgo]
  exact if_pos h
theorem mgo_no {k : Nat} (h : ¬ hcM p c m) : mgo tn tf (k + 1) (a, x, p, e, d, t, c, m, ou, ol) = if m p.toNat = 0 then (0, mstp tn tf a x p e d t c m ou ol) else mgo tn tf k (mstp tn tf a x p e d t c m ou ol) := by
  rw [mgo]
  exact if_neg h
theorem mstp_d : (mstp tn tf a x p e d t c m ou ol).2.2.2.2.1 = d + 1 := by
  unfold mstp mstpK
  split <;> first | rfl | (split <;> rfl)
theorem mgo_step (h0 : 0 ≤ d) (h5 : d < 5000) (h : stpR tn tf 0 a x p e d t c m ou ol a1 x1 p1 e1 d1 t1 c1 m1 ou1 ol1) : mgo tn tf (5000 - d).toNat (a, x, p, e, d, t, c, m, ou, ol) = mgo tn tf (5000 - d1).toNat (a1, x1, p1, e1, d1, t1, c1, m1, ou1, ol1) ∧ d1 = d + 1 := by
  rcases h with h | h | h
  · omega
  · omega
  · have hd := mstp_d (tn := tn) (tf := tf) (a := a) (x := x) (p := p) (e := e) (d := d) (t := t) (c := c) (m := m) (ou := ou) (ol := ol)
    rw [h.2.2.2] at hd
    have hd : d1 = d + 1 := hd
    refine ⟨?_, hd⟩
    rw [show (5000 - d).toNat = (5000 - d1).toNat + 1 by omega, mgo_no h.2.1, if_neg h.2.2.1, h.2.2.2]
theorem mgo_stop (h5 : d < 5000) (h : stpR tn tf (-1) a x p e d t c m ou ol a1 x1 p1 e1 d1 t1 c1 m1 ou1 ol1) : mgo tn tf (5000 - d).toNat (a, x, p, e, d, t, c, m, ou, ol) = (0, (a1, x1, p1, e1, d1, t1, c1, m1, ou1, ol1)) := by
  rcases h with h | h | h
  · omega
  · rw [show (5000 - d).toNat = (4999 - d).toNat + 1 by omega, mgo_no h.2.1, if_pos h.2.2.1, h.2.2.2]
  · omega
theorem mgo_harm (h5 : d < 5000) (hr : r = 1 ∨ r = 2) (h : stpR tn tf r a x p e d t c m ou ol a1 x1 p1 e1 d1 t1 c1 m1 ou1 ol1) : mgo tn tf (5000 - d).toNat (a, x, p, e, d, t, c, m, ou, ol) = (1, (a1, x1, p1, e1, d1, t1, c1, m1, ou1, ol1)) := by
  rcases h with h | h | h
  · rw [show (5000 - d).toNat = (4999 - d).toNat + 1 by omega, mgo_hc h.2.1, h.2.2]
  · omega
  · omega
end MGO
/-- a tool's bytes in the machine's memory -/
def ldm (n : Int) (f : Nat → Int) : Nat → Int := fun j => if (j : Int) < n then f j else 0
theorem ldm_cg {n : Int} {f f' : Nat → Int} (h : ∀ j : Nat, (j : Int) < n → f j = f' j) : ldm n f = ldm n f' := by
  funext j
  unfold ldm
  split
  · exact h j (by assumption)
  · rfl
/-- the run of a tool on a text; out and led as they lie there before -/
noncomputable def mrun (tn : Int) (tf : Int → Int) (n : Int) (f ou ol : Nat → Int) : Int × MS := mgo tn tf 5000 (0, 0, 0, 0, 0, 0, 0, ldm n f, ou, ol)
theorem arrV_cg {cA : ClassId} {N : Nat} {f f' : Nat → Int32} (h : ∀ j : Nat, j < N → f j = f' j) : vp_cell cA (N, .inl f) = vp_cell cA (N, .inl f') := by
  have e : (fun j : Fin N => Value.int (f j.val)) = fun j : Fin N => Value.int (f' j.val) := by
    funext j
    rw [h j.val j.isLt]
  exact congrArg (fun g => ({ cls := cA, slots := Array.ofFn g, vm := .none } : Cell)) e
/-- elements beyond an array's end say nothing -/
theorem Go.ext {l : Launch} {y : MD} {pc : Nat} {L : ML} {S : List Value} {h : MH} {Q : Option Value → MH → Prop} {a kd N : Nat} {f f' : Nat → Int32} (ha : h[a]? = some (.inl (kd, N, .inl f))) (he : ∀ j : Nat, j < N → f j = f' j) (k : ∀ h1 : MH, Sm [a] h h1 → h1[a]? = some (.inl (kd, N, .inl f')) → Go l y pc L S h1 Q) : Go l y pc L S h Q := by
  refine Go.st (h1 := h.set a (.inl (kd, N, .inl f'))) (by simp) (msz_set ha rfl) ?_ (k _ (Sm.set ha rfl) (hs_eq ha))
  intro p e R s m args below meth c b D kA H locs cells slots ls Qf C hf ho hc hs hR hS hL kk
  refine kk H locs ls ⟨by rw [hR.1]; simp, fun i q hq => ?_⟩ hS hL
  obtain ⟨e1, h1, rfl⟩ := mw_inv hq
  rw [List.getElem?_set] at h1
  by_cases z : a = i
  · subst z
    have hl : a < h.length := (List.getElem?_eq_some_iff.mp ha).1
    rw [if_pos rfl, if_pos hl] at h1
    cases h1
    have o := hR.2 a _ (mw_at ha)
    show H[b + a]? = some (vp_cell (kA kd) (N, .inl f'))
    rw [← arrV_cg he]
    exact o
  · rw [if_neg z] at h1
    exact hR.2 i _ (mw_at h1)
