/-! THE SMALL MACHINE: a heap is a list of cells (a cell's number is its place from 'b' on), a frame is pc, locals, stack; Go: the method comes to its end with Q -/
abbrev MH : Type := List va_E
abbrev ML : Type := List (Option Value)
/-- a method: its name, code, locals, answer's type, frames and words that it needs -/
abbrev MD : Type := MethodName × ByteArray × Nat × Option FieldType × Nat × Nat
def mv (b : Nat) (v : Value) : Value := match v with
  | .ref k => .ref (b + k)
  | v => v
def me (b : Nat) (kA : Nat → ClassId) (e : va_E) : va_E := match e with
  | .inl (k, n, .inl f) => .inl (kA k, n, .inl f)
  | .inl (k, n, .inr (.inl f)) => .inl (kA k, n, .inr (.inl f))
  | .inl (k, n, .inr (.inr (.inl f))) => .inl (kA k, n, .inr (.inr (.inl f)))
  | .inl (k, n, .inr (.inr (.inr (.inl f)))) => .inl (kA k, n, .inr (.inr (.inr (.inl f))))
  | .inl (k, n, .inr (.inr (.inr (.inr f)))) => .inl (kA k, n, .inr (.inr (.inr (.inr (fun j => (f j).map (fun x => b + x))))))
  | .inr (c, fs) => .inr (c, fs.map (mv b))
def mw (b : Nat) (kA : Nat → ClassId) (h : MH) : va_W := h.mapIdx (fun i e => (b + i, me b kA e))
def mcl (e : va_E) : Nat := match e with
  | .inl a => a.2.1
  | .inr o => o.2.length
def msz (h : MH) : Nat := (h.map mcl).sum
theorem mw_at {b : Nat} {kA : Nat → ClassId} {h : MH} {i : Nat} {e : va_E} (he : h[i]? = some e) : (mw b kA h)[i]? = some (b + i, me b kA e) := by
  simp [mw, List.getElem?_mapIdx, he]
theorem mw_inv {b : Nat} {kA : Nat → ClassId} {h : MH} {i : Nat} {q : Nat × va_E} (hq : (mw b kA h)[i]? = some q) : ∃ e, h[i]? = some e ∧ q = (b + i, me b kA e) := by
  simp only [mw, List.getElem?_mapIdx, Option.map_eq_some_iff] at hq
  obtain ⟨e, h1, h2⟩ := hq
  exact ⟨e, h1, h2.symm⟩
theorem mw_len {b : Nat} {kA : Nat → ClassId} {h : MH} : (mw b kA h).length = h.length := by simp [mw]
theorem mw_set {b : Nat} {kA : Nat → ClassId} {h : MH} {i : Nat} {e : va_E} : mw b kA (h.set i e) = (mw b kA h).set i (b + i, me b kA e) := by
  apply List.ext_getElem?
  intro j
  simp only [mw, List.getElem?_mapIdx, List.getElem?_set, List.length_mapIdx]
  by_cases hj : i = j
  · subst hj
    by_cases hl : i < h.length <;> simp [hl]
  · simp [hj]
theorem mw_push {b : Nat} {kA : Nat → ClassId} {h : MH} {e : va_E} : mw b kA (h ++ [e]) = mw b kA h ++ [(b + h.length, me b kA e)] := by
  simp [mw, List.mapIdx_append]
theorem mw_D {b : Nat} {kA : Nat → ClassId} {h : MH} : va_D (fun q => b ≤ q) (mw b kA h) := by
  refine ⟨fun i j p q hp hq he => ?_, fun k q hq => ?_⟩
  · obtain ⟨e1, -, rfl⟩ := mw_inv hp
    obtain ⟨e2, -, rfl⟩ := mw_inv hq
    have : b + i = b + j := he
    omega
  · obtain ⟨e1, -, rfl⟩ := mw_inv hq
    exact Nat.le_add_right b k
theorem msz_set {h : MH} {i : Nat} {e e' : va_E} (he : h[i]? = some e) (hc : mcl e' = mcl e) : msz (h.set i e') = msz h := by
  have : (h.set i e').map mcl = h.map mcl := by
    apply List.ext_getElem?
    intro j
    simp only [List.getElem?_map, List.getElem?_set]
    by_cases hj : i = j
    · subst hj
      obtain ⟨hl, he2⟩ := List.getElem?_eq_some_iff.mp he
      simp [hl, hc, he2]
    · simp [hj]
  unfold msz
  rw [this]
theorem msz_push {h : MH} {e : va_E} : msz (h ++ [e]) = msz h + mcl e := by simp [msz]
/-- the locals hold these -/
def Lh (b : Nat) (ls : Array Slot) (n : Nat) (L : ML) : Prop := ls.size = n ∧ lv_wf ls ∧ ∀ (i : Nat) (v : Value), L[i]? = some (some v) → ls[i]? = some (.val (mv b v))
def al (b : Nat) (L : ML) : List (Nat × Value) := (List.range L.length).filterMap (fun i => match L[i]? with
  | some (some v) => some (i, mv b v)
  | _ => none)
theorem al_mem {b : Nat} {L : ML} {i : Nat} {v : Value} (h : L[i]? = some (some v)) : (i, mv b v) ∈ al b L := by
  refine List.mem_filterMap.mpr ⟨i, List.mem_range.mpr (List.getElem?_eq_some_iff.mp h).1, ?_⟩
  rw [h]
theorem al_inv {b : Nat} {L : ML} {q : Nat × Value} (h : q ∈ al b L) : ∃ v, L[q.1]? = some (some v) ∧ q.2 = mv b v := by
  obtain ⟨i, -, hi⟩ := List.mem_filterMap.mp h
  split at hi
  next v hv => cases hi; exact ⟨v, hv, rfl⟩
  next => cases hi
theorem mv_cat (b : Nat) (v : Value) : (mv b v).category = v.category := by cases v <;> rfl
theorem Lh.has {b : Nat} {ls : Array Slot} {n : Nat} {L : ML} (h : Lh b ls n L) : lv_has ls n (al b L) := by
  refine ⟨h.1, h.2.1, fun q hq => ?_⟩
  obtain ⟨v, h1, h2⟩ := al_inv hq
  rw [h2]
  exact h.2.2 q.1 v h1
/-- a store at i may clear a long ahead of it -/
def Lok (L : ML) : Nat → Bool
  | 0 => true
  | i + 1 => match L[i]? with
    | some (some v) => v.category == 1
    | _ => true
theorem Lh.put1 {b : Nat} {ls : Array Slot} {n : Nat} {L : ML} {i : Nat} {v : Value} (hk : Lok L i = true) (h : lv_has ls n ((i, mv b v) :: (al b L).filter (fun q => !(q.1 == i) && !(q.1 + 1 == i && q.2.category == 2)))) : Lh b ls n (L.set i (some v)) := by
  refine ⟨h.1, h.2.1, fun j w hj => ?_⟩
  rw [List.getElem?_set] at hj
  by_cases hij : i = j
  · subst hij
    simp only [if_true] at hj
    split at hj
    · cases hj
      exact h.2.2 (i, mv b v) List.mem_cons_self
    · cases hj
  · rw [if_neg hij] at hj
    refine h.2.2 (j, mv b w) (List.mem_cons_of_mem _ (List.mem_filter.mpr ⟨al_mem hj, ?_⟩))
    have h1 : (j == i) = false := by simp; omega
    simp only [h1, Bool.not_false, Bool.true_and, Bool.not_eq_true', Bool.and_eq_false_iff]
    by_cases h2 : j + 1 = i
    · right
      subst h2
      simp only [Lok, hj] at hk
      rw [mv_cat]
      have : w.category = 1 := by simpa using hk
      rw [this]
      rfl
    · left
      simp [h2]
theorem Lh.put2 {b : Nat} {ls : Array Slot} {n : Nat} {L : ML} {i : Nat} {v : Value} (hk : Lok L i = true) (h : lv_has ls n ((i, mv b v) :: (al b L).filter (fun q => !(q.1 == i) && (!(q.1 == i + 1) && !(q.1 + 1 == i && q.2.category == 2))))) : Lh b ls n ((L.set i (some v)).set (i + 1) none) := by
  refine ⟨h.1, h.2.1, fun j w hj => ?_⟩
  rw [List.getElem?_set] at hj
  by_cases hij1 : i + 1 = j
  · subst hij1
    simp only [if_true] at hj
    split at hj <;> cases hj
  rw [if_neg hij1, List.getElem?_set] at hj
  by_cases hij : i = j
  · subst hij
    simp only [if_true] at hj
    split at hj
    · cases hj
      exact h.2.2 (i, mv b v) List.mem_cons_self
    · cases hj
  · rw [if_neg hij] at hj
    refine h.2.2 (j, mv b w) (List.mem_cons_of_mem _ (List.mem_filter.mpr ⟨al_mem hj, ?_⟩))
    have h1 : (j == i) = false := by simp; omega
    have h3 : (j == i + 1) = false := by simp; omega
    simp only [h1, h3, Bool.not_false, Bool.true_and, Bool.not_eq_true', Bool.and_eq_false_iff]
    by_cases h2 : j + 1 = i
    · right
      subst h2
      simp only [Lok, hj] at hk
      rw [mv_cat]
      have : w.category = 1 := by simpa using hk
      rw [this]
      rfl
    · left
      simp [h2]
def Le : List Value → ML
  | [] => []
  | v :: vs => if v.category = 2 then some v :: none :: Le vs else some v :: Le vs
/-- the locals at a method's entry -/
def Len (vs : List Value) (n : Nat) : ML := Le vs ++ List.replicate (n - (Le vs).length) none
theorem Le_len (b : Nat) : ∀ vs : List Value, (lg_sl (vs.map (mv b))).length = (Le vs).length
  | [] => rfl
  | v :: vs => by
    have ih := Le_len b vs
    simp only [lg_sl, List.map_cons, List.flatMap_cons, List.length_append] at ih ⊢
    rw [ih, mv_cat, Le]
    by_cases h : v.category = 2
    · simp [h]; omega
    · simp [h]; omega
theorem Le_args (b : Nat) : ∀ (vs : List Value) (k i : Nat) (v : Value), (Le vs)[i]? = some (some v) → (k + i, mv b v) ∈ lv_args k (vs.map (mv b))
  | [], k, i, v, h => by simp [Le] at h
  | u :: vs, k, i, v, h => by
    simp only [List.map_cons, lv_args, mv_cat]
    rw [Le] at h
    by_cases hc : u.category = 2
    · rw [if_pos hc] at h ⊢
      match i, h with
      | 0, h => simp at h; subst h; exact List.mem_cons_self
      | 1, h => simp at h
      | i + 2, h =>
        simp at h
        have := Le_args b vs (k + 2) i v h
        rw [show k + (i + 2) = k + 2 + i by omega]
        exact List.mem_cons_of_mem _ this
    · rw [if_neg hc] at h ⊢
      match i, h with
      | 0, h => simp at h; subst h; exact List.mem_cons_self
      | i + 1, h =>
        simp at h
        have := Le_args b vs (k + 1) i v h
        rw [show k + (i + 1) = k + 1 + i by omega]
        exact List.mem_cons_of_mem _ this
theorem Lh.entry {b : Nat} {vs : List Value} {n : Nat} (hn : (Le vs).length ≤ n) : Lh b ((lg_sl (vs.map (mv b)) ++ List.replicate (n - (lg_sl (vs.map (mv b))).length) Slot.unset).toArray) n (Len vs n) := by
  have h := lv_entry (vs.map (mv b)) (n := n) (by rw [Le_len]; exact hn)
  refine ⟨h.1, h.2.1, fun i v hv => ?_⟩
  unfold Len at hv
  by_cases hi : i < (Le vs).length
  · rw [List.getElem?_append_left hi] at hv
    have := Le_args b vs 0 i v hv
    rw [Nat.zero_add] at this
    exact h.2.2 _ this
  · rw [List.getElem?_append_right (by omega)] at hv
    have := List.eq_of_mem_replicate (List.mem_of_getElem? hv)
    cases this
def tyk (kA : Nat → ClassId) : List (ClassId × FieldType) := [(kA 0, .int), (kA 1, .byte), (kA 2, .object "LadderForge$Text"), (kA 3, .object "LadderForge$Tool")]
def Rp (b : Nat) (D : va_G) (kA : Nat → ClassId) (h : MH) (H : Heap) : Prop := H.size = b + h.length ∧ va_P D vwCl (mw b kA h) H
def Kx (D : va_G) (kA : Nat → ClassId) (U : State) : Prop := va_K D vwCl (tyk kA) U ∧ (∀ w ∈ nw, va_Nw w U) ∧ va_AO "LadderForge$Text" U ∧ va_AO "LadderForge$Tool" U
theorem nw_kind : ∀ w ∈ nw, (∃ a i b n d h, w = Cond.fieldLinkNest a i b n d h) ∨ (∃ a i x h, w = Cond.methodLinkNest a i x h) ∨ ∃ x, w = Cond.declares x := by
  intro w hw
  simp only [nw, List.mem_cons, List.not_mem_nil, or_false] at hw
  rcases hw with rfl | rfl | rfl | rfl | rfl | rfl | rfl | rfl | rfl | rfl | rfl | rfl | rfl | rfl | rfl | rfl | rfl | rfl | rfl | rfl | rfl | rfl | rfl | rfl | rfl | rfl | rfl | rfl <;>
    first
    | exact Or.inl ⟨_, _, _, _, _, _, rfl⟩
    | exact Or.inr (Or.inl ⟨_, _, _, _, rfl⟩)
    | exact Or.inr (Or.inr ⟨_, rfl⟩)
theorem Kx.warm {D : va_G} {kA : Nat → ClassId} {s U : State} (hW : s.WarmedH U.vm) (h : Kx D kA s) : Kx D kA U := by
  obtain ⟨h1, h2, h3, h4⟩ := h
  refine ⟨va_K.moved hW.alike h1, fun w hw => ?_, h3.moved hW.alike, h4.moved hW.alike⟩
  have hz := h2 w hw
  rcases nw_kind w hw with ⟨_, _, _, _, _, _, rfl⟩ | ⟨_, _, _, _, rfl⟩ | ⟨_, rfl⟩
  · exact va_Nw.warmF hW hz
  · exact va_Nw.warmM hW hz
  · exact va_Nw.warmD hW hz
/-- the maker's String constant, and what the JDK's statics hold -/
def jsB : List Int32 := [115, 116, 111, 112, 32, 105, 110, 32, 32, 32, 111, 117, 116, 32, 32, 115, 101, 116, 32, 32, 108, 111, 97, 100, 32, 115, 116, 111, 114, 101, 97, 100, 100, 32, 32, 115, 117, 98, 32, 32, 103, 101, 116, 32, 32, 112, 117, 116, 32, 32, 116, 111, 32, 32, 32, 106, 117, 109, 112, 32, 122, 101, 114, 111, 32, 101, 110, 100, 32, 32, 112, 108, 117, 115, 32, 109, 105, 110, 117, 115, 98, 121, 116, 101, 32]
def jsT : String := "stop in   out  set  load storeadd  sub  get  put  to   jump zero end  plus minusbyte "
def KS (b : Nat) (U : State) : Prop := ∃ adK adV : Nat → Nat, vk_S 1 [85] [jsB] adK adV (fun q => b ≤ q) U U.heap ∧ vk_R "LadderForge$NamedMaker" 103 jsT (adK 0) U ∧ va_Z "java/lang/String" "COMPACT_STRINGS" "Z" (.int 1) (fun q => b ≤ q) U U.heap ∧ va_Zq "jdk/internal/util/Preconditions" "SIOOBE_FORMATTER" "Ljava/util/function/BiFunction;" (fun q => b ≤ q) U U.heap
theorem KS.warm {b : Nat} {s U : State} {H : Heap} {locs : List Loc} (h : KS b s) (hS : va_S (fun q => b ≤ q) s.heap H locs) (hU : U.heap = H) (hW : s.WarmedH U.vm) : KS b U := by
  obtain ⟨adK, adV, h1, h2, h3, h4⟩ := h
  refine ⟨adK, adV, ?_, h2.warm hW, ?_, ?_⟩
  · rw [hU]; exact (vk_S.moved hW.alike h1).kept hS.2.1
  · rw [hU]; exact (va_Z.moved hW.alike h3).kept hS.2.1
  · rw [hU]; exact (va_Zq.moved hW.alike h4).kept hS.2.1
theorem KS.same {b : Nat} {u U : State} (hv : U.vm = u.vm) (hh : U.heap = u.heap) (h : KS b u) : KS b U := by
  obtain ⟨adK, adV, h1, h2, h3, h4⟩ := h
  have hA : u.vm.Alike U.vm := by rw [hv]; exact Vm.Alike.refl _
  refine ⟨adK, adV, ?_, h2.same hv, ?_, ?_⟩
  · rw [hh]; exact vk_S.moved hA h1
  · rw [hh]; exact va_Z.moved hA h3
  · rw [hh]; exact va_Zq.moved hA h4
/-- what holds all through a method -/
def Cx (y : MD) (p : Program) (s : State) (m : MethodId) (args : Array Value) (meth : Method) (c : Code) (b : Nat) (D : va_G) (kA : Nat → ClassId) : Prop :=
  p.tables.exec = Jvm.exec ∧ c.code = y.2.1 ∧ c.maxLocals = y.2.2.1 ∧ s.vm.findClass y.1.cls = some m.cls ∧ (∀ w ∈ gw, w.before args s = true) ∧ meth.sig.returnType = y.2.2.2.1 ∧ meth.locks = false ∧ meth.name = y.1.name ∧ Kx D kA s ∧ b ≤ s.heap.size ∧ KS b s
def Qe (b : Nat) (D : va_G) (kA : Nat → ClassId) (r : Option Value) (h' : MH) : Array Value → State → Outcome → State → Prop := fun _ st o t => o = .returned (r.map (mv b)) ∧ Rp b D kA h' t.heap ∧ va_F (fun q => b ≤ q) st t
def Ge (l : Launch) (y : MD) (pc : Nat) (L : ML) (S : List Value) (h : MH) (r : Option Value) (h' : MH) : Prop :=
  h.length ≤ h'.length ∧ msz h ≤ msz h' ∧
  ∀ (p : Program) (e : Env) (R : Room) (s : State) (m : MethodId) (args : Array Value) (below : List Frame) (meth : Method) (c : Code) (b : Nat) (D : va_G) (kA : Nat → ClassId) (H : Heap) (locs : List Loc) (cells slots : Nat) (ls : Array Slot),
    Cx y p s m args meth c b D kA → y.2.2.2.2.1 ≤ R.frames → y.2.2.2.2.2 ≤ R.locals → cells + (h'.length - h.length) ≤ R.cells → slots + (msz h' - msz h) ≤ R.slots → Rp b D kA h H → va_S (fun q => b ≤ q) s.heap H locs → Lh b ls y.2.2.1 L →
    W p l e R s m args below meth c H locs cells slots (MQ below (Qe b D kA r h') args s (cells + (h'.length - h.length)) (slots + (msz h' - msz h)) (fun q => b ≤ q)) (F0 m pc ls (S.map (mv b)))
/-- from here the method comes to its end, and Q holds of its answer and of the cells then -/
def Go (l : Launch) (y : MD) (pc : Nat) (L : ML) (S : List Value) (h : MH) (Q : Option Value → MH → Prop) : Prop := ∃ r h', Q r h' ∧ Ge l y pc L S h r h'
theorem Go.stp {l : Launch} {y : MD} {pc pc1 : Nat} {L L1 : ML} {S S1 : List Value} {h h1 : MH} {Q : Option Value → MH → Prop} (h01 : h.length ≤ h1.length) (hm1 : msz h ≤ msz h1)
    (hW : ∀ (p : Program) (e : Env) (R : Room) (s : State) (m : MethodId) (args : Array Value) (below : List Frame) (meth : Method) (c : Code) (b : Nat) (D : va_G) (kA : Nat → ClassId) (H : Heap) (locs : List Loc) (cells slots : Nat) (ls : Array Slot) (Qf : State → Prop),
      Cx y p s m args meth c b D kA → y.2.2.2.2.1 ≤ R.frames → y.2.2.2.2.2 ≤ R.locals → cells + (h1.length - h.length) ≤ R.cells → slots + (msz h1 - msz h) ≤ R.slots → Rp b D kA h H → va_S (fun q => b ≤ q) s.heap H locs → Lh b ls y.2.2.1 L →
      (∀ (H1 : Heap) (locs1 : List Loc) (ls1 : Array Slot), Rp b D kA h1 H1 → va_S (fun q => b ≤ q) s.heap H1 locs1 → Lh b ls1 y.2.2.1 L1 → W p l e R s m args below meth c H1 locs1 (cells + (h1.length - h.length)) (slots + (msz h1 - msz h)) Qf (F0 m pc1 ls1 (S1.map (mv b)))) →
      W p l e R s m args below meth c H locs cells slots Qf (F0 m pc ls (S.map (mv b))))
    (k : Go l y pc1 L1 S1 h1 Q) : Go l y pc L S h Q := by
  obtain ⟨r, h', q, g1, g2, g3⟩ := k
  refine ⟨r, h', q, Nat.le_trans h01 g1, Nat.le_trans hm1 g2, ?_⟩
  intro p e R s m args below meth c b D kA H locs cells slots ls C hf ho hc hs hR hS hL
  refine hW p e R s m args below meth c b D kA H locs cells slots ls _ C hf ho (by omega) (by omega) hR hS hL (fun H1 locs1 ls1 hR1 hS1 hL1 => ?_)
  have e1 : cells + (h1.length - h.length) + (h'.length - h1.length) = cells + (h'.length - h.length) := by omega
  have e2 : slots + (msz h1 - msz h) + (msz h' - msz h1) = slots + (msz h' - msz h) := by omega
  have g := g3 p e R s m args below meth c b D kA H1 locs1 (cells + (h1.length - h.length)) (slots + (msz h1 - msz h)) ls1 C hf ho (by omega) (by omega) hR1 hS1 hL1
  rw [e1, e2] at g
  exact g
/-- an instruction that leaves the cells as they are, or changes some in place -/
theorem Go.st {l : Launch} {y : MD} {pc pc1 : Nat} {L L1 : ML} {S S1 : List Value} {h h1 : MH} {Q : Option Value → MH → Prop} (h01 : h1.length = h.length) (hm1 : msz h1 = msz h)
    (hW : ∀ (p : Program) (e : Env) (R : Room) (s : State) (m : MethodId) (args : Array Value) (below : List Frame) (meth : Method) (c : Code) (b : Nat) (D : va_G) (kA : Nat → ClassId) (H : Heap) (locs : List Loc) (cells slots : Nat) (ls : Array Slot) (Qf : State → Prop),
      Cx y p s m args meth c b D kA → y.2.2.2.2.1 ≤ R.frames → y.2.2.2.2.2 ≤ R.locals → cells ≤ R.cells → slots ≤ R.slots → Rp b D kA h H → va_S (fun q => b ≤ q) s.heap H locs → Lh b ls y.2.2.1 L →
      (∀ (H1 : Heap) (locs1 : List Loc) (ls1 : Array Slot), Rp b D kA h1 H1 → va_S (fun q => b ≤ q) s.heap H1 locs1 → Lh b ls1 y.2.2.1 L1 → W p l e R s m args below meth c H1 locs1 cells slots Qf (F0 m pc1 ls1 (S1.map (mv b)))) →
      W p l e R s m args below meth c H locs cells slots Qf (F0 m pc ls (S.map (mv b))))
    (k : Go l y pc1 L1 S1 h1 Q) : Go l y pc L S h Q := by
  refine Go.stp (Nat.le_of_eq h01.symm) (Nat.le_of_eq hm1.symm) ?_ k
  intro p e R s m args below meth c b D kA H locs cells slots ls Qf C hf ho hc hs hR hS hL kk
  have e1 : h1.length - h.length = 0 := by omega
  have e2 : msz h1 - msz h = 0 := by omega
  rw [e1, e2] at kk
  exact hW p e R s m args below meth c b D kA H locs cells slots ls Qf C hf ho (by omega) (by omega) hR hS hL kk
/-- an instruction that changes pc, stack and locals alone -/
theorem Go.s0 {l : Launch} {y : MD} {pc pc1 : Nat} {L L1 : ML} {S S1 : List Value} {h : MH} {Q : Option Value → MH → Prop}
    (hW : ∀ (p : Program) (e : Env) (R : Room) (s : State) (m : MethodId) (args : Array Value) (below : List Frame) (meth : Method) (c : Code) (b : Nat) (D : va_G) (kA : Nat → ClassId) (H : Heap) (locs : List Loc) (cells slots : Nat) (ls : Array Slot) (Qf : State → Prop),
      Cx y p s m args meth c b D kA → y.2.2.2.2.1 ≤ R.frames → y.2.2.2.2.2 ≤ R.locals → cells ≤ R.cells → slots ≤ R.slots → Rp b D kA h H → Lh b ls y.2.2.1 L →
      (∀ ls1 : Array Slot, Lh b ls1 y.2.2.1 L1 → W p l e R s m args below meth c H locs cells slots Qf (F0 m pc1 ls1 (S1.map (mv b)))) →
      W p l e R s m args below meth c H locs cells slots Qf (F0 m pc ls (S.map (mv b))))
    (k : Go l y pc1 L1 S1 h Q) : Go l y pc L S h Q :=
  Go.st rfl rfl (fun p e R s m args below meth c b D kA H locs cells slots ls Qf C hf ho hc hs hR hS hL kk => hW p e R s m args below meth c b D kA H locs cells slots ls Qf C hf ho hc hs hR hL (fun ls1 hl1 => kk H locs ls1 hR hS hl1)) k
theorem Go.conseq {l : Launch} {y : MD} {pc : Nat} {L : ML} {S : List Value} {h : MH} {Q Q' : Option Value → MH → Prop} (k : Go l y pc L S h Q) (hq : ∀ r h', Q r h' → Q' r h') : Go l y pc L S h Q' := by
  obtain ⟨r, h', q, g⟩ := k
  exact ⟨r, h', hq r h' q, g⟩
