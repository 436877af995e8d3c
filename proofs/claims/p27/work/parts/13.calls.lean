/-- what a method's own words are -/
def wsm (z : MD) : List Cond := Cond.code z.1 z.2.1 z.2.2.1 z.2.2.2.1 :: gw
/-- a method's code stands in the tables, its class is made -/
def MW (z : MD) : Prop := Cond.code z.1 z.2.1 z.2.2.1 z.2.2.2.1 ∈ gw ∧ Cond.initialized z.1.cls ∈ gw ∧ plainName z.1.cls = true ∧ z.1.cls ≠ "java/lang/invoke/MethodHandle" ∧ z.1.cls ≠ "java/lang/invoke/VarHandle"
theorem goodIn_gw {z : MD} (hz : MW z) : GoodIn gw (wsm z) := by
  intro w hw
  rcases List.mem_cons.mp hw with rfl | hw
  · exact ⟨hz.1, good_of_word (gw_good hz.1)⟩
  · exact ⟨hw, good_of_word (gw_good hw)⟩
theorem met_G {l : Launch} {z : MD} {vs : List Value} {h h' : MH} {r : Option Value} (hz : MW z) (hlen : (Le vs).length ≤ z.2.2.1) (g : Ge l z 0 (Len vs z.2.2.1) [] h r h') (b : Nat) (D : va_G) (kA : Nat → ClassId) :
    Met l z.1 (wsm z) ({ frames := z.2.2.2.2.1, cells := h'.length - h.length, slots := msz h' - msz h, locals := z.2.2.2.2.2 }) (va_Pc (vs.map (mv b)) (fun U => Rp b D kA h U.heap ∧ Kx D kA U ∧ KS b U)) (Qe b D kA r h') (h'.length - h.length) (msz h' - msz h) (fun q => b ≤ q) := by
  refine Met.ofW (cc := z.2.1) (maxL := z.2.2.1) (ret := z.2.2.2.1) hz.2.2.1 rfl ?_
  intro p e s m args below meth c s₁ B hml hv
  obtain ⟨rfl, hR, hK, hKS⟩ := hv
  have hts := atoms_spec (ws := wsm z) B.pre
  have g3 := g.2.2 p e ({ frames := z.2.2.2.2.1, cells := h'.length - h.length, slots := msz h' - msz h, locals := z.2.2.2.2.2 }) s m (vs.map (mv b)).toArray below meth c b D kA s.heap [] 0 0 _ ⟨B.exec, B.bytes, hml, findClass_of_methodNamed B.named, fun w hw => hts w (List.mem_cons_of_mem _ hw), B.returns, B.notSynchronized, (name_of_methodNamed B.named B.method).1, hK, by rw [hR.1]; omega, hKS⟩ (Nat.le_refl _) (Nat.le_refl _) (Nat.le_of_eq (Nat.zero_add _)) (Nat.le_of_eq (Nat.zero_add _)) hR va_S.rf (Lh.entry hlen)
  rw [lg_entry_eq]
  simp only [Nat.zero_add] at g3
  exact g3
section CL
variable {l : Launch} {y z : MD} {pc : Nat} {L : ML} {S S0 : List Value} {h : MH} {Q : Option Value → MH → Prop}
theorem cat_mv (b : Nat) (S : List Value) : ((S.map (mv b)).map fun v => v.category) = S.map fun v => v.category := by simp [mv_cat]
/-- from a call's run to the caller's next instruction -/
theorem run_go {vs : List Value} {n0 : Nat} (hpc : pc + 3 = n0)
    (hrun : ∀ (h1 : MH) (r1 : Option Value), Ge l z 0 (Len vs z.2.2.1) [] h r1 h1 → ∀ (p : Program) (e : Env) (R : Room) (s : State) (m : MethodId) (args : Array Value) (below : List Frame) (meth : Method) (c : Code) (b : Nat) (D : va_G) (kA : Nat → ClassId) (H : Heap) (locs : List Loc) (cells slots : Nat) (ls : Array Slot),
      Cx y p s m args meth c b D kA → y.2.2.2.2.1 ≤ R.frames → y.2.2.2.2.2 ≤ R.locals → cells + (h1.length - h.length) ≤ R.cells → slots + (msz h1 - msz h) ≤ R.slots → Rp b D kA h H → va_S (fun q => b ≤ q) s.heap H locs → Lh b ls y.2.2.1 L →
      ∃ a : Array Value, va_Run p l e R s m args below meth c H locs cells slots (h1.length - h.length) (msz h1 - msz h) (F0 m pc ls (S0.map (mv b))) (S.map (mv b)) (Qe b D kA r1 h1 a) (fun q => b ≤ q))
    (kk : Go l z 0 (Len vs z.2.2.1) [] h (fun r1 h1 => Go l y n0 L (r1.toList ++ S) h1 Q)) : Go l y pc L S0 h Q := by
  subst hpc
  obtain ⟨r1, h1, hgo, g⟩ := kk
  refine Go.stp g.1 g.2.1 (fun p e R s m args below meth c b D kA H locs cells slots ls Qf C hf ho hc hs hR hS hl kk => ?_) hgo
  obtain ⟨a, hr⟩ := hrun h1 r1 g p e R s m args below meth c b D kA H locs cells slots ls C hf ho hc hs hR hS hl
  intro T hT X
  obtain ⟨v, st₀, t, T', Lc, h0, X', hL, e1, e2, ⟨hv, hR1, hz, hk⟩, st⟩ := hr T hT X
  have hv' : v = r1.map (mv b) := by cases hv; rfl
  subst hv'
  rw [h0] at hz hk
  have hsv : (r1.map (mv b)).toList ++ S.map (mv b) = (r1.toList ++ S).map (mv b) := by cases r1 <;> simp
  obtain ⟨t2, a1, b1⟩ := kk T'.heap (locs ++ Lc) ls (by rw [e1]; exact hR1) ⟨Nat.le_trans hS.1 (by rw [e1]; exact hz), fun q h1 h2 => by rw [e1, hk q (Nat.lt_of_lt_of_le h1 hS.1) h2]; exact hS.2.1 q h1 h2, fun q hq => by
      rcases List.mem_append.mp hq with h | h
      · exact hS.2.2 q h
      · exact hL q h⟩ hl T' rfl X'
  rw [← hsv] at a1
  exact ⟨t2, st t2 a1, b1⟩
theorem blind_G {av : List Value} {b : Nat} {D : va_G} {kA : Nat → ClassId} {h : MH} : FrameBlind (va_Pc av (fun U => Rp b D kA h U.heap ∧ Kx D kA U ∧ KS b U)) := by
  intro a U g mk q
  obtain ⟨q0, qR, ⟨qK, qN, q3, q4⟩, qS⟩ := q
  have hvm : U.vm = (U.calling g mk a).vm := rfl
  refine ⟨q0, qR, ⟨va_K.moved (u := U) (U := U.calling g mk a) (Vm.Alike.refl U.vm) qK, fun w hw => ?_, va_AO.moved (u := U) (U := U.calling g mk a) (Vm.Alike.refl U.vm) q3, va_AO.moved (u := U) (U := U.calling g mk a) (Vm.Alike.refl U.vm) q4⟩, KS.same (u := U) rfl rfl qS⟩
  rcases nw_kind w hw with ⟨_, _, _, _, _, _, rfl⟩ | ⟨_, _, _, _, rfl⟩ | ⟨_, rfl⟩
  · exact va_Nw.same rfl hvm (qN _ hw)
  · exact va_Nw.same rfl hvm (qN _ hw)
  · exact va_Nw.same rfl hvm (qN _ hw)
/-- the callee's room within the caller's -/
def RM (y z : MD) : Prop := z.2.2.2.2.1 + 1 ≤ y.2.2.2.2.1 ∧ 8 + (z.2.2.1 + 11) + z.2.2.2.2.2 ≤ y.2.2.2.2.2
def np (z : MD) (n : Nat) : Prop := (parseMethodDescriptor z.1.desc).map (fun d => d.parameters.length) = some n
/-- invokevirtual of a method that isn't overridden -/
theorem g_callV {i a ci : Nat} {fs As : List Value} {r : vw_C} (n0 : Nat) (d : decode y.2.1 pc = .ok (.invokevirtual i, 3)) (hz : MW z) (hRM : RM y z) (hnp : np z As.length) (hw1 : Cond.methodLink y.1.cls i z.1 ∈ gw) (hw2 : Cond.instanceMethod z.1 ∈ gw) (hw3 : Cond.selects z.1.cls z.1 z.1 ∈ gw)
    (ha : h[a]? = some (.inr (ci, fs))) (hc0 : vwCl[ci]? = some r) (hr1 : r.1 = z.1.cls) (hS0 : S0 = As.reverse ++ .ref a :: S) (hst : (S.map fun v => v.category).sum ≤ 8) (hlen : (Le (.ref a :: As)).length ≤ z.2.2.1) (hn : pc + 3 = n0)
    (kk : Go l z 0 (Len (.ref a :: As) z.2.2.1) [] h (fun r1 h1 => Go l y n0 L (r1.toList ++ S) h1 Q)) : Go l y pc L S0 h Q := by
  refine run_go hn ?_ kk
  intro h1 r1 g p e R s m args below meth c b D kA H locs cells slots ls C hf ho hc hs hR hS hl
  obtain ⟨hx, hb, hml, hown, hts, hr, hlk2, hnm, hK, hbs, hKS⟩ := C
  refine ⟨(Value.ref (b + a) :: As.map (mv b)).toArray, ?_⟩
  have hM := met_G hz hlen g b D kA
  have hG : GoodIn gw (wsV y.1.cls i z.1.cls z.1 (wsm z)) := by
    intro w hw
    rcases List.mem_append.mp hw with hw | hw
    · simp only [List.mem_cons, List.not_mem_nil, or_false] at hw
      rcases hw with rfl | rfl | rfl | rfl
      · exact ⟨hw1, good_of_word (gw_good hw1)⟩
      · exact ⟨hw2, good_of_word (gw_good hw2)⟩
      · exact ⟨hw3, good_of_word (gw_good hw3)⟩
      · exact ⟨hz.2.1, good_of_word (gw_good hz.2.1)⟩
    · exact goodIn_gw hz w hw
  have hcw := cwV (R := R) (args := args) (s := s) (n := As.length) (Ts := gw) (own := y.1.cls) (index := i) (C := z.1.cls) (y := z.1) (ws := wsm z) (rm := { frames := z.2.2.2.2.1, cells := h1.length - h.length, slots := msz h1 - msz h, locals := z.2.2.2.2.2 }) hts hG rfl rfl rfl ⟨rfl, hz.2.2.2.1, hz.2.2.2.2, hnp⟩ ⟨Nat.le_trans hRM.1 hf, Nat.le_trans hRM.2 ho⟩
  refine va_runV (As := As.map (mv b)) (rest := S.map (mv b)) (b := b + a) ⟨hx, hb, hml, hown, hts⟩ hM hcw ⟨blind_G, ?_, fun U hU hW => ⟨rfl, by rw [hU]; exact hR, hK.warm hW, hKS.warm hS hU hW⟩⟩ rfl (by simp) hl.1 ?_ (lv_room (by rw [cat_mv]; exact hst)) d ⟨hc, hs⟩
  · rw [← hr1]
    exact va_recv hK.1 hR.2 hc0 (mw_at ha)
  · rw [hS0]
    simp [mv]
/-- invokestatic of a method of ours -/
theorem g_callS {i : Nat} {As : List Value} (n0 : Nat) (d : decode y.2.1 pc = .ok (.invokestatic i, 3)) (hz : MW z) (hRM : RM y z) (hnp : np z As.length) (hw1 : Cond.methodLink y.1.cls i z.1 ∈ gw) (hw2 : Cond.static z.1 ∈ gw)
    (hS0 : S0 = As.reverse ++ S) (hst : (S.map fun v => v.category).sum ≤ 8) (hlen : (Le As).length ≤ z.2.2.1) (hn : pc + 3 = n0)
    (kk : Go l z 0 (Len As z.2.2.1) [] h (fun r1 h1 => Go l y n0 L (r1.toList ++ S) h1 Q)) : Go l y pc L S0 h Q := by
  refine run_go hn ?_ kk
  intro h1 r1 g p e R s m args below meth c b D kA H locs cells slots ls C hf ho hc hs hR hS hl
  obtain ⟨hx, hb, hml, hown, hts, hr, hlk2, hnm, hK, hbs, hKS⟩ := C
  refine ⟨(As.map (mv b)).toArray, ?_⟩
  have hM := met_G hz hlen g b D kA
  have hcb := callB_of (R := R) (args := args) (s := s) (n := As.length) (Ts := gw) (own := y.1.cls) (index := i) (y := z.1) (ws := wsm z) (rm := { frames := z.2.2.2.2.1, cells := h1.length - h.length, slots := msz h1 - msz h, locals := z.2.2.2.2.2 }) hts (goodIn_gw hz) rfl rfl rfl (hts _ hz.2.1) (hts _ hw1) ⟨hz.2.2.2.1, hz.2.2.2.2, hnp⟩ ⟨Nat.le_trans hRM.1 hf, Nat.le_trans hRM.2 ho⟩
  refine va_runS (As := As.map (mv b)) (rest := S.map (mv b)) ⟨hx, hb, hml, hown, hts⟩ hM ⟨hcb, hts _ hw2⟩ ⟨blind_G, fun U hU hW => ⟨rfl, by rw [hU]; exact hR, hK.warm hW, hKS.warm hS hU hW⟩⟩ rfl (by simp) hl.1 ?_ (lv_room (by rw [cat_mv]; exact hst)) d ⟨hc, hs⟩
  rw [hS0]
  simp
/-- a constructor of ours -/
theorem g_callI {i a : Nat} {As : List Value} (n0 : Nat) (d : decode y.2.1 pc = .ok (.invokespecial i, 3)) (hz : MW z) (hret : z.2.2.2.1 = none) (hRM : RM y z) (hnp : np z As.length) (hw1 : Cond.methodLink y.1.cls i z.1 ∈ gw) (hw2 : Cond.instanceMethod z.1 ∈ gw) (hnm0 : z.1.name = "<init>")
    (hS0 : S0 = As.reverse ++ .ref a :: S) (hst : (S.map fun v => v.category).sum ≤ 8) (hlen : (Le (.ref a :: As)).length ≤ z.2.2.1) (hn : pc + 3 = n0)
    (kk : Go l z 0 (Len (.ref a :: As) z.2.2.1) [] h (fun r1 h1 => Go l y n0 L (r1.toList ++ S) h1 Q)) : Go l y pc L S0 h Q := by
  refine run_go hn ?_ kk
  intro h1 r1 g p e R s m args below meth c b D kA H locs cells slots ls C hf ho hc hs hR hS hl
  obtain ⟨hx, hb, hml, hown, hts, hr, hlk2, hnm, hK, hbs, hKS⟩ := C
  refine ⟨(Value.ref (b + a) :: As.map (mv b)).toArray, ?_⟩
  have hM := met_G hz hlen g b D kA
  have hcb := callB_of (R := R) (args := args) (s := s) (n := As.length) (Ts := gw) (own := y.1.cls) (index := i) (y := z.1) (ws := wsm z) (ret := none) (rm := { frames := z.2.2.2.2.1, cells := h1.length - h.length, slots := msz h1 - msz h, locals := z.2.2.2.2.2 }) hts (goodIn_gw hz) (by unfold wsm; rw [hret]) rfl rfl (hts _ hz.2.1) (hts _ hw1) ⟨hz.2.2.2.1, hz.2.2.2.2, hnp⟩ ⟨Nat.le_trans hRM.1 hf, Nat.le_trans hRM.2 ho⟩
  refine va_runI (As := As.map (mv b)) (rest := S.map (mv b)) (b := b + a) ⟨hx, hb, hml, hown, hts⟩ hM ⟨hcb, hnm0, hts _ hw2⟩ ⟨blind_G, fun U hU hW => ⟨rfl, by rw [hU]; exact hR, hK.warm hW, hKS.warm hS hU hW⟩⟩ rfl (by simp) hl.1 ?_ (lv_room (by rw [cat_mv]; exact hst)) d ⟨hc, hs⟩
  rw [hS0]
  simp [mv]
/-- a constructor of a nest mate -/
theorem g_callIN {i a : Nat} {As : List Value} {host : String} (n0 : Nat) (d : decode y.2.1 pc = .ok (.invokespecial i, 3)) (hz : MW z) (hret : z.2.2.2.1 = none) (hRM : RM y z) (hnp : np z As.length) (hw1 : Cond.methodLinkNest y.1.cls i z.1 host ∈ nw) (hw2 : Cond.instanceMethod z.1 ∈ gw) (hnm0 : z.1.name = "<init>")
    (hS0 : S0 = As.reverse ++ .ref a :: S) (hst : (S.map fun v => v.category).sum ≤ 8) (hlen : (Le (.ref a :: As)).length ≤ z.2.2.1) (hn : pc + 3 = n0)
    (kk : Go l z 0 (Len (.ref a :: As) z.2.2.1) [] h (fun r1 h1 => Go l y n0 L (r1.toList ++ S) h1 Q)) : Go l y pc L S0 h Q := by
  refine run_go hn ?_ kk
  intro h1 r1 g p e R s m args below meth c b D kA H locs cells slots ls C hf ho hc hs hR hS hl
  obtain ⟨hx, hb, hml, hown, hts, hr, hlk2, hnm, hK, hbs, hKS⟩ := C
  refine ⟨(Value.ref (b + a) :: As.map (mv b)).toArray, ?_⟩
  have hM := met_G hz hlen g b D kA
  have hcb := va_cnB (R := R) (args := args) (s := s) (n := As.length) (Ts := gw) (own := y.1.cls) (index := i) (y := z.1) (host := host) (ws := wsm z) (ret := none) (rm := { frames := z.2.2.2.2.1, cells := h1.length - h.length, slots := msz h1 - msz h, locals := z.2.2.2.2.2 }) hts (goodIn_gw hz) (by unfold wsm; rw [hret]) rfl rfl (hK.2.1 _ hw1) (hts _ hz.2.1) ⟨hz.2.2.2.1, hz.2.2.2.2, hnp⟩ ⟨Nat.le_trans hRM.1 hf, Nat.le_trans hRM.2 ho⟩
  refine va_runIN (As := As.map (mv b)) (rest := S.map (mv b)) (b := b + a) ⟨hx, hb, hml, hown, hts⟩ hM ⟨hcb, hnm0, hts _ hw2⟩ ⟨blind_G, fun U hU hW => ⟨rfl, by rw [hU]; exact hR, hK.warm hW, hKS.warm hS hU hW⟩⟩ rfl (by simp) hl.1 ?_ (lv_room (by rw [cat_mv]; exact hst)) d ⟨hc, hs⟩
  rw [hS0]
  simp [mv]
/-- invokevirtual of an abstract method x: the receiver's class has z -/
theorem g_callA {i a ci : Nat} {fs As : List Value} {r : vw_C} {x : MethodName} (n0 : Nat) (d : decode y.2.1 pc = .ok (.invokevirtual i, 3)) (hz : MW z) (hRM : RM y z) (hnx : (parseMethodDescriptor x.desc).map (fun d => d.parameters.length) = some As.length) (hw1 : Cond.methodLink y.1.cls i x ∈ gw) (hw4 : Cond.sameMethod x.cls x.cls x.name x.desc ∈ gw) (hw2 : Cond.instanceMethod z.1 ∈ gw) (hw3 : Cond.selects r.1 x z.1 ∈ gw) (hw5 : Cond.declares ⟨x.cls, x.name, x.desc⟩ ∈ nw) (hx1 : x.cls ≠ "java/lang/invoke/MethodHandle" ∧ x.cls ≠ "java/lang/invoke/VarHandle")
    (ha : h[a]? = some (.inr (ci, fs))) (hc0 : vwCl[ci]? = some r) (hS0 : S0 = As.reverse ++ .ref a :: S) (hst : (S.map fun v => v.category).sum ≤ 8) (hlen : (Le (.ref a :: As)).length ≤ z.2.2.1) (hn : pc + 3 = n0)
    (kk : Go l z 0 (Len (.ref a :: As) z.2.2.1) [] h (fun r1 h1 => Go l y n0 L (r1.toList ++ S) h1 Q)) : Go l y pc L S0 h Q := by
  refine run_go hn ?_ kk
  intro h1 r1 g p e R s m args below meth c b D kA H locs cells slots ls C hf ho hc hs hR hS hl
  obtain ⟨hx, hb, hml, hown, hts, hr, hlk2, hnm, hK, hbs, hKS⟩ := C
  refine ⟨(Value.ref (b + a) :: As.map (mv b)).toArray, ?_⟩
  have hM := met_G hz hlen g b D kA
  have hG : GoodIn gw (va_wsU y.1.cls i r.1 x.cls x z.1 (wsm z)) := by
    intro w hw
    rcases List.mem_append.mp hw with hw | hw
    · simp only [List.mem_cons, List.not_mem_nil, or_false] at hw
      rcases hw with rfl | rfl | rfl | rfl | rfl
      · exact ⟨hw1, good_of_word (gw_good hw1)⟩
      · exact ⟨hw4, good_of_word (gw_good hw4)⟩
      · exact ⟨hw3, good_of_word (gw_good hw3)⟩
      · exact ⟨hw2, good_of_word (gw_good hw2)⟩
      · exact ⟨hz.2.1, good_of_word (gw_good hz.2.1)⟩
    · exact goodIn_gw hz w hw
  have hcw := va_cwA (R := R) (args := args) (s := s) (n := As.length) (Ts := gw) (own := y.1.cls) (index := i) (C := r.1) (owner := x.cls) (x := x) (y := z.1) (ws := wsm z) (rm := { frames := z.2.2.2.2.1, cells := h1.length - h.length, slots := msz h1 - msz h, locals := z.2.2.2.2.2 }) hts hG rfl rfl rfl (hK.2.1 _ hw5) ⟨hx1.1, hx1.2, hnx⟩ ⟨Nat.le_trans hRM.1 hf, Nat.le_trans hRM.2 ho⟩
  refine va_runU (As := As.map (mv b)) (rest := S.map (mv b)) (b := b + a) ⟨hx, hb, hml, hown, hts⟩ hM hcw ⟨blind_G, va_recv hK.1 hR.2 hc0 (mw_at ha), fun U hU hW => ⟨rfl, by rw [hU]; exact hR, hK.warm hW, hKS.warm hS hU hW⟩⟩ rfl (by simp) hl.1 ?_ (lv_room (by rw [cat_mv]; exact hst)) d ⟨hc, hs⟩
  rw [hS0]
  simp [mv]
end CL
