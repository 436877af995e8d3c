/-- field k of class ci is what the entry idx of own's pool names -/
def FA (own : String) (idx ci k : Nat) : Prop := ∃ (C ref : String) (T : u_T) (N : Nat), vwCl[ci]? = some (C, T, N) ∧ k < N ∧ (∀ w ∈ u_ws C T N, w ∈ gw) ∧ (Cond.fieldLink own idx ref (T k).2.1 (T k).2.2.1 ∈ gw ∨ ∃ host, Cond.fieldLinkNest own idx ref (T k).2.1 (T k).2.2.1 host ∈ nw) ∧ (ref = (T k).1 ∨ Cond.sameField ref (T k).1 (T k).2.1 (T k).2.2.1 ∈ gw)
def FP (own : String) (idx ci k : Nat) (ty : FieldType) : Prop := ∃ (C ref : String) (T : u_T) (N : Nat) (ty0 : Nat → FieldType), vwCl[ci]? = some (C, T, N) ∧ k < N ∧ (∀ w ∈ u_ws C T N, w ∈ gw) ∧ (Cond.fieldLink own idx ref (T k).2.1 (T k).2.2.1 ∈ gw ∨ ∃ host, Cond.fieldLinkNest own idx ref (T k).2.1 (T k).2.2.1 host ∈ nw) ∧ (ref = (T k).1 ∨ Cond.sameField ref (T k).1 (T k).2.1 (T k).2.2.1 ∈ gw) ∧
  (∀ k, k < N → parseFieldDescriptor (T k).2.2.1 = some (ty0 k)) ∧ (∀ a, a < N → ∀ b, b < N → a ≠ b → (T a).2.1 ≠ (T b).2.1) ∧ (T k).2.2.2 = false ∧ parseFieldDescriptor (T k).2.2.1 = some ty
def FPF (own : String) (idx ci k : Nat) (ty : FieldType) : Prop := ∃ (C ref : String) (T : u_T) (N : Nat) (ty0 : Nat → FieldType), vwCl[ci]? = some (C, T, N) ∧ k < N ∧ (∀ w ∈ u_ws C T N, w ∈ gw) ∧ Cond.fieldLink own idx ref (T k).2.1 (T k).2.2.1 ∈ gw ∧ (ref = (T k).1 ∨ Cond.sameField ref (T k).1 (T k).2.1 (T k).2.2.1 ∈ gw) ∧
  (∀ k, k < N → parseFieldDescriptor (T k).2.2.1 = some (ty0 k)) ∧ (∀ a, a < N → ∀ b, b < N → a ≠ b → (T a).2.1 ≠ (T b).2.1) ∧ (T k).2.2.2 = true ∧ (T k).1 = own ∧ parseFieldDescriptor (T k).2.2.1 = some ty
def FN (own : String) (idx ci : Nat) (fs : List Value) : Prop := ∃ (C : String) (T : u_T) (N : Nat) (ty0 : Nat → FieldType), vwCl[ci]? = some (C, T, N) ∧ (∀ w ∈ u_ws C T N, w ∈ gw) ∧ (∀ k, k < N → parseFieldDescriptor (T k).2.2.1 = some (ty0 k)) ∧
  Cond.classLink own idx C ∈ gw ∧ Cond.instantiable C N ∈ gw ∧ Cond.initialized C ∈ gw ∧ (∀ j, j < N → defaultValue (ty0 j) = vp_V fs j) ∧ fs.length = N ∧ (∀ b, fs.map (mv b) = fs)
section HP
variable {l : Launch} {y : MD} {pc : Nat} {L : ML} {S : List Value} {h : MH} {Q : Option Value → MH → Prop}
theorem g_get {i ci k a : Nat} {fs : List Value} {v : Value} (n : Nat) (d : decode y.2.1 pc = .ok (.getfield i, 3)) (hF : FA y.1.cls i ci k) (ha : h[a]? = some (.inr (ci, fs))) (hv : fs[k]? = some v) (hn : pc + 3 = n) (kk : Go l y n L (v :: S) h Q) : Go l y pc L (.ref a :: S) h Q := by
  subst hn
  obtain ⟨C0, ref, T, N, hc0, hk, hin, hlk, hsm⟩ := hF
  refine Go.s0 (fun p e R s m args below meth c b D kA H locs cells slots ls Qf C hf ho hc hs hR hl kk => ?_) kk
  obtain ⟨hx, hb, hml, hown, hts, hr, hlk2, hnm, hK, hbs⟩ := C
  have hv' : (fs.map (mv b))[k]? = some (mv b v) := by rw [List.getElem?_map, hv]; rfl
  have hsame : ∀ x, s.fieldFound? (T k).1 (T k).2.1 (T k).2.2.1 = some x → s.fieldFound? ref (T k).2.1 (T k).2.2.1 = some x := by
    rcases hsm with rfl | hw
    · exact fun _ h => h
    · exact u_same (hts _ hw)
  rcases hlk with hw | ⟨host, hw⟩
  · exact va_get (D := D) (a := b + a) hx hb (Ts := gw) hts hin hown hK.1 hR.2 a (mw_at ha) hc0 k hk (hts _ hw) hsame hv' d (kk ls hl)
  · exact va_getN (D := D) (a := b + a) hx hb (Ts := gw) hts hin hown hK.1 hR.2 a (mw_at ha) hc0 k hk ((hK.2.1 _ hw).use rfl) hsame hv' d (kk ls hl)
theorem g_put {i ci k a : Nat} {fs fs1 : List Value} {v : Value} {ty : FieldType} (n : Nat) (d : decode y.2.1 pc = .ok (.putfield i, 3)) (hF : FP y.1.cls i ci k ty) (ha : h[a]? = some (.inr (ci, fs))) (hk1 : k < fs.length) (hv : ∀ b, narrow ty (mv b v) = mv b v ∧ fits ty (mv b v) = true) (hf1 : fs.set k v = fs1) (hn : pc + 3 = n) (kk : Go l y n L S (h.set a (.inr (ci, fs1))) Q) : Go l y pc L (v :: .ref a :: S) h Q := by
  subst hn
  subst hf1
  obtain ⟨C0, ref, T, N, ty0, hc0, hk, hin, hlk, hsm, hty, hnm0, hfin, hd⟩ := hF
  refine Go.st (h1 := h.set a (.inr (ci, fs.set k v))) (by simp) (msz_set ha (by simp [mcl])) (fun p e R s m args below meth c b D kA H locs cells slots ls Qf C hf ho hc hs hR hS hl kk => ?_) kk
  obtain ⟨hx, hb, hml, hown, hts, hr, hlk2, hnm, hK, hbs⟩ := C
  have hsame : ∀ x, s.fieldFound? (T k).1 (T k).2.1 (T k).2.2.1 = some x → s.fieldFound? ref (T k).2.1 (T k).2.2.1 = some x := by
    rcases hsm with rfl | hw
    · exact fun _ h => h
    · exact u_same (hts _ hw)
  have he : (mw b kA h)[a]? = some (b + a, .inr (ci, fs.map (mv b))) := mw_at ha
  have hP := hR.2
  have hD : va_D (fun q => b ≤ q) (mw b kA h) := mw_D
  have hap := va_apart (own := y.1.cls) hts hin ty0 hty hnm0 hK.1 hc0
  obtain ⟨r, h1, cell, q1, q2, q3, q4⟩ := hP a _ he
  have hr : r = (C0, T, N) := Option.some.inj (h1.symm.trans hc0)
  subst hr
  obtain ⟨hS0, hfc, kC, hkC, hkind⟩ := hK.1.1 ci _ hc0
  obtain ⟨cf, kf, fi, f, hi, hsl⟩ := hS0 k hk
  have hlay := hts _ (hin _ (u_in_lay hk))
  unfold u_lay at hlay
  rw [if_neg (by rw [hfin]; decide)] at hlay
  have hst := (u_facts hfc hkC (u_lays hts hin hk) hi).1
  have h6 := u_store hfc hkC hkind hlay hi hd (hv b).1 (hv b).2
  have fin : ∀ H' : Heap, H'[b + a]? = some (cell.setSlot f.slot (mv b v)) → H'.size = H.size → (∀ q, q ≠ b + a → H'[q]? = H[q]?) → W p l e R s m args below meth c H' (locs ++ [⟨b + a, f.slot⟩]) cells slots Qf (F0 m (pc + 3) ls (S.map (mv b))) := by
    intro H' e1 e2 e3
    rw [hsl] at e1 ⊢
    refine kk H' _ ls ⟨by rw [e2, hR.1]; simp, ?_⟩ (hS.put e2 e3 (hD.2 a _ he)) hl
    rw [mw_set]
    have : me b kA (.inr (ci, fs.set k v)) = .inr (ci, (fs.map (mv b)).set k (mv b v)) := by simp [me, List.map_set]
    rw [this]
    exact hP.set hD he ⟨_, hc0, t_OB.to (V := updV (vp_V (fs.map (mv b))) k (mv b v)) ⟨_, e1, q2, q3, t_set q4 hap hk _⟩ (fun j _ => vp_updV_set (by simpa using hk1) (mv b v) j)⟩ e3
  rcases hlk with hw | ⟨host, hw⟩
  · exact W.putK hx hb (f := f) ⟨hown, hts _ hw, ⟨_, _, _, hsame _ hi⟩, hst⟩ (by rw [q2]; exact h6) q1 q3 (by rw [hsl]; exact k2_hasslot (q4 k hk)) rfl rfl d fin
  · exact va_WputK hx hb (f := f) hown ((hK.2.1 _ hw).use rfl) (hsame _ hi) hst (by rw [q2]; exact h6) q1 q3 (by rw [hsl]; exact k2_hasslot (q4 k hk)) rfl rfl d fin
theorem g_putF {i ci k a : Nat} {fs fs1 : List Value} {v : Value} {ty : FieldType} (n : Nat) (d : decode y.2.1 pc = .ok (.putfield i, 3)) (hF : FPF y.1.cls i ci k ty) (hin0 : y.1.name = "<init>") (ha : h[a]? = some (.inr (ci, fs))) (hk1 : k < fs.length) (hv : ∀ b, narrow ty (mv b v) = mv b v ∧ fits ty (mv b v) = true) (hf1 : fs.set k v = fs1) (hn : pc + 3 = n) (kk : Go l y n L S (h.set a (.inr (ci, fs1))) Q) : Go l y pc L (v :: .ref a :: S) h Q := by
  subst hn
  subst hf1
  obtain ⟨C0, ref, T, N, ty0, hc0, hk, hin, hw, hsm, hty, hnm0, hfin, hdecl, hd⟩ := hF
  refine Go.st (h1 := h.set a (.inr (ci, fs.set k v))) (by simp) (msz_set ha (by simp [mcl])) (fun p e R s m args below meth c b D kA H locs cells slots ls Qf C hf ho hc hs hR hS hl kk => ?_) kk
  obtain ⟨hx, hb, hml, hown, hts, hr, hlk2, hnm, hK, hbs⟩ := C
  have hsame : ∀ x, s.fieldFound? (T k).1 (T k).2.1 (T k).2.2.1 = some x → s.fieldFound? ref (T k).2.1 (T k).2.2.1 = some x := by
    rcases hsm with rfl | hw
    · exact fun _ h => h
    · exact u_same (hts _ hw)
  have he : (mw b kA h)[a]? = some (b + a, .inr (ci, fs.map (mv b))) := mw_at ha
  have hP := hR.2
  have hD : va_D (fun q => b ≤ q) (mw b kA h) := mw_D
  have hap := va_apart (own := y.1.cls) hts hin ty0 hty hnm0 hK.1 hc0
  obtain ⟨r, h1, cell, q1, q2, q3, q4⟩ := hP a _ he
  have hr : r = (C0, T, N) := Option.some.inj (h1.symm.trans hc0)
  subst hr
  obtain ⟨hS0, hfc, kC, hkC, hkind⟩ := hK.1.1 ci _ hc0
  obtain ⟨cf, kf, fi, f, hi, hsl⟩ := hS0 k hk
  have hlay := hts _ (hin _ (u_in_lay hk))
  unfold u_lay at hlay
  rw [if_pos hfin] at hlay
  have hst := (u_facts hfc hkC (u_lays hts hin hk) hi).1
  have hcf : m.cls = cf := by
    obtain ⟨_, _, c', _, _, _, -, -, hf', -, -, -, hown2, -⟩ := Cond.laysFinal_spec hlay
    have e1 : c' = cf := by have := hi.symm.trans hf'; simp at this; exact this.1.symm
    rw [hdecl] at hown2
    rw [← e1]; exact Option.some.inj (hown.symm.trans hown2)
  have h6 := u_fits hfc hkC hkind (Or.inr hlay) hi hd (hv b).1 (hv b).2
  refine W.putFinK hx hb hown (hts _ hw) (hsame _ hi) hst hcf (hnm.trans hin0) (by rw [q2]; exact h6) q1 q3 (by rw [hsl]; exact k2_hasslot (q4 k hk)) rfl rfl d fun H' e1 e2 e3 => ?_
  rw [hsl] at e1 ⊢
  refine kk H' _ ls ⟨by rw [e2, hR.1]; simp, ?_⟩ (hS.put e2 e3 (hD.2 a _ he)) hl
  rw [mw_set]
  have : me b kA (.inr (ci, fs.set k v)) = .inr (ci, (fs.map (mv b)).set k (mv b v)) := by simp [me, List.map_set]
  rw [this]
  exact hP.set hD he ⟨_, hc0, t_OB.to (V := updV (vp_V (fs.map (mv b))) k (mv b v)) ⟨_, e1, q2, q3, t_set q4 hap hk _⟩ (fun j _ => vp_updV_set (by simpa using hk1) (mv b v) j)⟩ e3
theorem g_iald {a N : Nat} {f : Nat → Int32} {x v : Int32} (n : Nat) (d : decode y.2.1 pc = .ok (.iaload, 1)) (ha : h[a]? = some (.inl (0, N, .inl f))) (hin : vp_in x N) (hv : f x.toNatClampNeg = v) (hn : pc + 1 = n) (kk : Go l y n L (.int v :: S) h Q) : Go l y pc L (.int x :: .ref a :: S) h Q := by
  subst hn
  subst hv
  refine Go.s0 (fun p e R s m args below meth c b D kA H locs cells slots ls Qf C hf ho hc hs hR hl kk => ?_) kk
  exact va_iald (D := D) (a := b + a) C.1 C.2.1 C.2.2.2.2.2.2.2.2.1.1 hR.2 a 0 (mw_at ha) rfl hin d (kk ls hl)
theorem g_bald {a N : Nat} {f : Nat → Int32} {x v : Int32} (n : Nat) (d : decode y.2.1 pc = .ok (.baload, 1)) (ha : h[a]? = some (.inl (1, N, .inl f))) (hin : vp_in x N) (hv : f x.toNatClampNeg = v) (hn : pc + 1 = n) (kk : Go l y n L (.int v :: S) h Q) : Go l y pc L (.int x :: .ref a :: S) h Q := by
  subst hn
  subst hv
  refine Go.s0 (fun p e R s m args below meth c b D kA H locs cells slots ls Qf C hf ho hc hs hR hl kk => ?_) kk
  exact va_bald (D := D) (a := b + a) C.1 C.2.1 C.2.2.2.2.2.2.2.2.1.1 hR.2 a 1 (mw_at ha) rfl hin d (kk ls hl)
theorem mv_rf (b : Nat) (o : Option Nat) : va_rf (o.map (fun x => b + x)) = mv b (va_rf o) := by cases o <;> rfl
theorem g_aald {a N kd : Nat} {f : Nat → Option Nat} {x : Int32} {v : Value} (n : Nat) (d : decode y.2.1 pc = .ok (.aaload, 1)) (ha : h[a]? = some (.inl (kd, N, .inr (.inr (.inr (.inr f)))))) (hkd : kd = 2 ∨ kd = 3) (hin : vp_in x N) (hv : va_rf (f x.toNatClampNeg) = v) (hn : pc + 1 = n) (kk : Go l y n L (v :: S) h Q) : Go l y pc L (.int x :: .ref a :: S) h Q := by
  subst hn
  subst hv
  refine Go.s0 (fun p e R s m args below meth c b D kA H locs cells slots ls Qf C hf ho hc hs hR hl kk => ?_) kk
  have k2 := kk ls hl
  simp only [List.map_cons] at k2
  rw [← mv_rf] at k2
  rcases hkd with rfl | rfl
  · exact va_aldq (D := D) (a := b + a) C.1 C.2.1 C.2.2.2.2.2.2.2.2.1.1 hR.2 a 2 (mw_at ha) rfl hin d k2
  · exact va_aldq (D := D) (a := b + a) C.1 C.2.1 C.2.2.2.2.2.2.2.2.1.1 hR.2 a 3 (mw_at ha) rfl hin d k2
theorem g_iast {a N : Nat} {f f1 : Nat → Int32} {x i : Int32} (n : Nat) (d : decode y.2.1 pc = .ok (.iastore, 1)) (ha : h[a]? = some (.inl (0, N, .inl f))) (hin : vp_in i N) (hf1 : upd f i.toNatClampNeg x = f1) (hn : pc + 1 = n) (kk : Go l y n L S (h.set a (.inl (0, N, .inl f1))) Q) : Go l y pc L (.int x :: .int i :: .ref a :: S) h Q := by
  subst hn
  subst hf1
  refine Go.st (h1 := h.set a (.inl (0, N, .inl (upd f i.toNatClampNeg x)))) (by simp) (msz_set ha (by simp [mcl])) (fun p e R s m args below meth c b D kA H locs cells slots ls Qf C hf ho hc hs hR hS hl kk => ?_) kk
  have hP := hR.2
  have hD : va_D (fun q => b ≤ q) (mw b kA h) := mw_D
  have he : (mw b kA h)[a]? = some (b + a, .inl (kA 0, N, .inl f)) := mw_at ha
  have hK := C.2.2.2.2.2.2.2.2.1.1
  refine W.iast C.1 C.2.1 (hP a _ he) ((hK.2 0 (kA 0, .int) rfl).1 N (fun j => .int (f j))) (fun q => by cases q) (by show ¬ (i < 0 ∨ (arrV _ _ _).slots.size ≤ _); rw [arrV_size]; exact hin) rfl rfl d fun H1 e z oq => ?_
  refine kk H1 _ ls ⟨by rw [z, hR.1]; simp, ?_⟩ (hS.put z oq (hD.2 a _ he)) hl
  rw [mw_set]
  refine hP.set hD he ?_ oq
  show H1[b + a]? = some (vp_cell _ _)
  rw [e]
  rw [vp_cell_i, vp_cell_i, arrV_store]
  congr 2
  funext q
  by_cases hq : q = i.toNatClampNeg
  · subst hq
    simp [updV, upd]
  · simp [updV, upd, hq]
theorem g_bast {a N : Nat} {f f1 : Nat → Int32} {x i : Int32} (n : Nat) (d : decode y.2.1 pc = .ok (.bastore, 1)) (ha : h[a]? = some (.inl (1, N, .inl f))) (hin : vp_in i N) (hf1 : upd f i.toNatClampNeg (vp_nar .byte x) = f1) (hn : pc + 1 = n) (kk : Go l y n L S (h.set a (.inl (1, N, .inl f1))) Q) : Go l y pc L (.int x :: .int i :: .ref a :: S) h Q := by
  subst hn
  subst hf1
  refine Go.st (h1 := h.set a (.inl (1, N, .inl (upd f i.toNatClampNeg (vp_nar .byte x))))) (by simp) (msz_set ha (by simp [mcl])) (fun p e R s m args below meth c b D kA H locs cells slots ls Qf C hf ho hc hs hR hS hl kk => ?_) kk
  have hP := hR.2
  have hD : va_D (fun q => b ≤ q) (mw b kA h) := mw_D
  have he : (mw b kA h)[a]? = some (b + a, .inl (kA 1, N, .inl f)) := mw_at ha
  have hK := C.2.2.2.2.2.2.2.2.1.1
  refine W.bast C.1 C.2.1 (hP a _ he) ((hK.2 1 (kA 1, .byte) rfl).1 N (fun j => .int (f j))) (fun q => by cases q) (by show ¬ (i < 0 ∨ (arrV _ _ _).slots.size ≤ _); rw [arrV_size]; exact hin) rfl rfl d fun H1 e z oq => ?_
  refine kk H1 _ ls ⟨by rw [z, hR.1]; simp, ?_⟩ (hS.put z oq (hD.2 a _ he)) hl
  rw [mw_set]
  refine hP.set hD he ?_ oq
  show H1[b + a]? = some (vp_cell _ _)
  rw [e]
  rw [vp_cell_i, vp_cell_i, arrV_store]
  congr 2
  funext q
  by_cases hq : q = i.toNatClampNeg
  · subst hq
    simp [updV, upd, vp_nar]
    try rfl
  · simp [updV, upd, hq]
/-- what an array of references takes: the kind's class -/
def kcl (kd : Nat) : String := if kd = 2 then "LadderForge$Text" else "LadderForge$Tool"
theorem g_aast {a N kd ci v : Nat} {vs : List Value} {r : vw_C} {f f1 : Nat → Option Nat} {i : Int32} (n : Nat) (d : decode y.2.1 pc = .ok (.aastore, 1)) (ha : h[a]? = some (.inl (kd, N, .inr (.inr (.inr (.inr f)))))) (hkd : kd = 2 ∨ kd = 3) (hvv : h[v]? = some (.inr (ci, vs))) (hc0 : vwCl[ci]? = some r) (hr1 : r.1 = kcl kd) (hin : vp_in i N) (hf1 : va_up f i.toNatClampNeg (some v) = f1) (hn : pc + 1 = n) (kk : Go l y n L S (h.set a (.inl (kd, N, .inr (.inr (.inr (.inr f1)))))) Q) : Go l y pc L (.ref v :: .int i :: .ref a :: S) h Q := by
  subst hn
  subst hf1
  refine Go.st (h1 := h.set a (.inl (kd, N, .inr (.inr (.inr (.inr (va_up f i.toNatClampNeg (some v)))))))) (by simp) (msz_set ha (by simp [mcl])) (fun p e R s m args below meth c b D kA H locs cells slots ls Qf C hf ho hc hs hR hS hl kk => ?_) kk
  have hP := hR.2
  have hD : va_D (fun q => b ≤ q) (mw b kA h) := mw_D
  have he : (mw b kA h)[a]? = some (b + a, .inl (kA kd, N, .inr (.inr (.inr (.inr (fun j => (f j).map (fun x => b + x))))))) := mw_at ha
  have hev : (mw b kA h)[v]? = some (b + v, .inr (ci, vs.map (mv b))) := mw_at hvv
  have hK := C.2.2.2.2.2.2.2.2.1.1
  have hlt : i.toNatClampNeg < N := Nat.not_le.mp fun q => hin (Or.inr q)
  have h0 : ¬ i < 0 := fun q => hin (Or.inl q)
  obtain ⟨r', hr', cellV, g1, g2, g3, -⟩ := hP v _ hev
  have hcls := (hK.1 ci r hc0).2
  have ht : (tyk kA)[kd]? = some (kA kd, .object r.1) := by
    rw [hr1]
    rcases hkd with rfl | rfl <;> rfl
  obtain ⟨kA2, comp, k1, k2, k3, -⟩ := (hK.2 kd _ ht).2
  have hcomp : comp = D.1 ci := Option.some.inj (k3.symm.trans hcls.1)
  subst hcomp
  have hasg := va_assign hcls
  obtain ⟨kC, hkC, -⟩ := hcls.2
  refine W.aast C.1 C.2.1 (hP a _ he) (fun q h => by cases h) (fun h => by cases h) k1 k2 rfl hkC ⟨h0, by show _ < (arrV _ _ _).slots.size; rw [arrV_size]; exact hlt⟩ g1 (fun q h => by rw [g3] at h; cases h) (by rw [g2]; exact hkC) (by rw [g2]; exact hasg) rfl rfl d fun H1 e z oq => ?_
  refine kk H1 _ ls ⟨by rw [z, hR.1]; simp, ?_⟩ (hS.put z oq (hD.2 a _ he)) hl
  rw [mw_set]
  refine hP.set hD he ?_ oq
  show H1[b + a]? = some (vp_cell _ _)
  rw [e]
  rw [vp_cell_q, vp_cell_q, arrV_store]
  congr 2
  funext q
  by_cases hq : q = i.toNatClampNeg
  · subst hq
    simp [updV, va_up, va_rf]
  · simp [updV, va_up, hq]
theorem g_new {i ci : Nat} {fs : List Value} (n : Nat) (d : decode y.2.1 pc = .ok (.new i, 3)) (hF : FN y.1.cls i ci fs) (hn : pc + 3 = n) (kk : Go l y n L (.ref h.length :: S) (h ++ [.inr (ci, fs)]) Q) : Go l y pc L S h Q := by
  subst hn
  obtain ⟨C0, T, N, ty0, hc0, hin, hty, hw1, hw2, hw3, hfs, hlen, hmap⟩ := hF
  refine Go.stp (h1 := h ++ [.inr (ci, fs)]) (by simp) (by rw [msz_push]; omega) (fun p e R s m args below meth c b D kA H locs cells slots ls Qf C hf ho hc hs hR hS hl kk => ?_) kk
  obtain ⟨hx, hb, hml, hown, hts, hr, hlk2, hnm, hK, hbs⟩ := C
  have e1 : (h ++ [(.inr (ci, fs) : va_E)]).length - h.length = 1 := by simp
  have e2 : msz (h ++ [(.inr (ci, fs) : va_E)]) - msz h = N := by rw [msz_push]; simp [mcl, hlen]
  rw [e1, e2] at kk
  rw [e1] at hc
  rw [e2] at hs
  have hKn := hK.1.1 ci _ hc0
  refine W.newcK hx hb hown (hts _ hw1) (hts _ hw2) (hts _ hw3) rfl d hc hs hKn.2.1 hR.1 fun H1 kC hkC q1 z1 o1 => ?_
  have hk : ∀ (k : Nat) (x : Nat × va_E), (mw b kA h)[k]? = some x → H1[x.1]? = H[x.1]? := fun k x hx => o1 x.1 (by have := (hR.2 k x hx).lt; rw [hR.1] at this; exact this)
  refine kk H1 locs ls ⟨by rw [z1]; simp; omega, ?_⟩ ⟨Nat.le_trans hS.1 (by rw [z1, hR.1]; omega), fun x h1 h2 => (o1 x (by have := Nat.lt_of_lt_of_le h1 hS.1; rw [hR.1] at this; exact this)).trans (hS.2.1 x h1 h2), hS.2.2⟩ hl
  rw [mw_push]
  refine (hR.2.kept hk).app (fun k x hx => ?_)
  have hz : k < 1 := (List.getElem?_eq_some_iff.mp hx).1
  rw [show k = 0 by omega] at hx
  cases hx
  have : me b kA (.inr (ci, fs)) = .inr (ci, fs) := by simp [me, hmap b]
  rw [this]
  exact ⟨_, hc0, (u_born ty0 hts hin hKn hkC q1 hty).to hfs⟩
/-- a new array of a small type: kind kd -/
theorem g_newarr {at_ : ArrayType} {kd N : Nat} {x : Int32} (n : Nat) (d : decode y.2.1 pc = .ok (.newarray at_, 2)) (hk : (at_ = .int ∧ kd = 0) ∨ (at_ = .byte ∧ kd = 1)) (hw : Cond.arrayClass (newarray.typeOf at_) ∈ gw) (hx0 : ¬ x < 0) (hN : x.toNatClampNeg = N) (hbig : N ≤ 100000) (hn : pc + 2 = n) (kk : Go l y n L (.ref h.length :: S) (h ++ [.inl (kd, N, .inl (fun _ => 0))]) Q) : Go l y pc L (.int x :: S) h Q := by
  subst hn
  refine Go.stp (h1 := h ++ [.inl (kd, N, .inl (fun _ => 0))]) (by simp) (by rw [msz_push]; omega) (fun p e R s m args below meth c b D kA H locs cells slots ls Qf C hf ho hc hs hR hS hl kk => ?_) kk
  obtain ⟨hx, hb, hml, hown, hts, hr, hlk2, hnm, hK, hbs⟩ := C
  have e1 : (h ++ [(.inl (kd, N, .inl (fun _ => 0)) : va_E)]).length - h.length = 1 := by simp
  have e2 : msz (h ++ [(.inl (kd, N, .inl (fun _ => 0)) : va_E)]) - msz h = N := by rw [msz_push]; simp [mcl]
  rw [e1, e2] at kk
  rw [e1] at hc
  rw [e2] at hs
  have hby : N * componentBytes (newarray.typeOf at_) ≤ 536870912 := by
    rcases hk with ⟨rfl, -⟩ | ⟨rfl, -⟩
    · have : componentBytes (newarray.typeOf .int) = 4 := by decide
      rw [this]; omega
    · have : componentBytes (newarray.typeOf .byte) = 1 := by decide
      rw [this]; omega
  refine va_newaK (g := F0 m pc ls (.int x :: S.map (mv b))) hx hb (hts _ hw) rfl d rfl hx0 hN hby hc hs hR.1 fun H1 cA q1 z1 o1 hAr hNm => ?_
  have hk2 : ∀ (k : Nat) (x : Nat × va_E), (mw b kA h)[k]? = some x → H1[x.1]? = H[x.1]? := fun k x hx => o1 x.1 (by have := (hR.2 k x hx).lt; rw [hR.1] at this; exact this)
  refine kk H1 locs ls ⟨by rw [z1]; simp; omega, ?_⟩ ⟨Nat.le_trans hS.1 (by rw [z1, hR.1]; omega), fun x h1 h2 => (o1 x (by have := Nat.lt_of_lt_of_le h1 hS.1; rw [hR.1] at this; exact this)).trans (hS.2.1 x h1 h2), hS.2.2⟩ hl
  rw [mw_push]
  refine (hR.2.kept hk2).app (fun k x hx => ?_)
  have hz : k < 1 := (List.getElem?_eq_some_iff.mp hx).1
  rw [show k = 0 by omega] at hx
  cases hx
  show H1[b + h.length]? = some (vp_cell _ _)
  rcases hk with ⟨rfl, rfl⟩ | ⟨rfl, rfl⟩
  · have hA : cA = kA 0 := Option.some.inj (hNm.symm.trans (hK.1.2 0 (kA 0, .int) rfl).2)
    rw [q1, hA]
    rfl
  · have hA : cA = kA 1 := Option.some.inj (hNm.symm.trans (hK.1.2 1 (kA 1, .byte) rfl).2)
    rw [q1, hA]
    rfl
/-- a new array of references: kind kd -/
theorem g_anew {i kd N : Nat} {x : Int32} (n : Nat) (d : decode y.2.1 pc = .ok (.anewarray i, 3)) (hk : kd = 2 ∨ kd = 3) (hw : Cond.classLink y.1.cls i (kcl kd) ∈ gw) (hx0 : ¬ x < 0) (hN : x.toNatClampNeg = N) (hbig : N ≤ 100000) (hn : pc + 3 = n) (kk : Go l y n L (.ref h.length :: S) (h ++ [.inl (kd, N, .inr (.inr (.inr (.inr (fun _ => none)))))]) Q) : Go l y pc L (.int x :: S) h Q := by
  subst hn
  refine Go.stp (h1 := h ++ [.inl (kd, N, .inr (.inr (.inr (.inr (fun _ => none)))))]) (by simp) (by rw [msz_push]; omega) (fun p e R s m args below meth c b D kA H locs cells slots ls Qf C hf ho hc hs hR hS hl kk => ?_) kk
  obtain ⟨hx, hb, hml, hown, hts, hr, hlk2, hnm, hK, hbs⟩ := C
  have e1 : (h ++ [(.inl (kd, N, .inr (.inr (.inr (.inr (fun _ => none))))) : va_E)]).length - h.length = 1 := by simp
  have e2 : msz (h ++ [(.inl (kd, N, .inr (.inr (.inr (.inr (fun _ => none))))) : va_E)]) - msz h = N := by rw [msz_push]; simp [mcl]
  rw [e1, e2] at kk
  rw [e1] at hc
  rw [e2] at hs
  subst hN
  have hover : va_AO (kcl kd) s := by
    rcases hk with rfl | rfl
    · exact hK.2.2.1
    · exact hK.2.2.2
  refine W.anew (g := F0 m pc ls (.int x :: S.map (mv b))) hx hb hown (hts _ hw) (va_AO.use hover) rfl d rfl hx0 (by omega) hc hs fun cA kA2 comp f1 f2 f3 f4 => ?_
  generalize hH1 : H.push ({ cls := cA, slots := Array.replicate x.toNatClampNeg .null, vm := .none } : Cell) = H1
  have z1 : H1.size = H.size + 1 := by rw [← hH1, Array.size_push]
  have q1 : H1[H.size]? = some (arrV cA x.toNatClampNeg (fun _ => .null)) := by rw [← hH1, Array.getElem?_push_size, ← arrV_new]
  have o1 : ∀ q : Nat, q < H.size → H1[q]? = H[q]? := fun q hq => by rw [← hH1, Array.getElem?_push, if_neg (Nat.ne_of_lt hq)]
  have hk2 : ∀ (k : Nat) (x : Nat × va_E), (mw b kA h)[k]? = some x → H1[x.1]? = H[x.1]? := fun k x hx => o1 x.1 ((hR.2 k x hx).lt)
  have eH : H.size = b + h.length := hR.1
  have k3 := kk H1 locs ls ⟨by rw [z1, hR.1]; simp; omega, ?_⟩ ⟨Nat.le_trans hS.1 (by rw [z1]; omega), fun x h1 h2 => (o1 x (Nat.lt_of_lt_of_le h1 hS.1)).trans (hS.2.1 x h1 h2), hS.2.2⟩ hl
  · rw [eH]
    exact k3
  rw [mw_push]
  refine (hR.2.kept hk2).app (fun k x hx => ?_)
  have hz : k < 1 := (List.getElem?_eq_some_iff.mp hx).1
  rw [show k = 0 by omega] at hx
  cases hx
  show H1[b + h.length]? = some (vp_cell _ _)
  rw [← eH, q1]
  rcases hk with rfl | rfl
  · obtain ⟨_, _, -, -, -, hA⟩ := (hK.1.2 2 (kA 2, .object "LadderForge$Text") rfl).2
    have hA : cA = kA 2 := Option.some.inj (f1.symm.trans hA)
    rw [hA]
    rfl
  · obtain ⟨_, _, -, -, -, hA⟩ := (hK.1.2 3 (kA 3, .object "LadderForge$Tool") rfl).2
    have hA : cA = kA 3 := Option.some.inj (f1.symm.trans hA)
    rw [hA]
    rfl
end HP
