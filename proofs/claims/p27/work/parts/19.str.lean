/-! the JDK's own methods over the maker's String constant: nothing is written -/
def KJ (b ak av : Nat) (U : State) : Prop := vk_S 1 [85] [jsB] (fun _ => ak) (fun _ => av) (fun q => b ≤ q) U U.heap ∧ va_Z "java/lang/String" "COMPACT_STRINGS" "Z" (.int 1) (fun q => b ≤ q) U U.heap ∧ va_Zq "jdk/internal/util/Preconditions" "SIOOBE_FORMATTER" "Ljava/util/function/BiFunction;" (fun q => b ≤ q) U U.heap
theorem KS.j {b : Nat} {U : State} (h : KS b U) : ∃ ak av : Nat, KJ b ak av U ∧ vk_R "LadderForge$NamedMaker" 103 jsT ak U := by
  obtain ⟨adK, adV, h1, h2, h3, h4⟩ := h
  refine ⟨adK 0, adV 0, ⟨⟨fun i hi => ?_, fun i j hi hj _ => by omega⟩, h3, h4⟩, h2⟩
  have : i = 0 := by omega
  subst this
  exact h1.1 0 hi
theorem KJ.warm {b ak av : Nat} {s U : State} (h : KJ b ak av s) (hU : U.heap = s.heap) (hW : s.WarmedH U.vm) : KJ b ak av U := by
  obtain ⟨h1, h3, h4⟩ := h
  refine ⟨?_, ?_, ?_⟩
  · rw [hU]; exact vk_S.moved hW.alike h1
  · rw [hU]; exact va_Z.moved hW.alike h3
  · rw [hU]; exact va_Zq.moved hW.alike h4
theorem KJ.at {b ak av : Nat} {s U : State} {H : Heap} {locs : List Loc} (h : KJ b ak av s) (hS : va_S (fun q => b ≤ q) s.heap H locs) (hU : U.heap = H) (hW : s.WarmedH U.vm) : KJ b ak av U := by
  obtain ⟨h1, h3, h4⟩ := h
  refine ⟨?_, ?_, ?_⟩
  · rw [hU]; exact (vk_S.moved hW.alike h1).kept hS.2.1
  · rw [hU]; exact (va_Z.moved hW.alike h3).kept hS.2.1
  · rw [hU]; exact (va_Zq.moved hW.alike h4).kept hS.2.1
theorem KJ.same {b ak av : Nat} {u U : State} (hv : U.vm = u.vm) (hh : U.heap = u.heap) (h : KJ b ak av u) : KJ b ak av U := by
  obtain ⟨h1, h3, h4⟩ := h
  have hA : u.vm.Alike U.vm := by rw [hv]; exact Vm.Alike.refl _
  refine ⟨?_, ?_, ?_⟩
  · rw [hh]; exact vk_S.moved hA h1
  · rw [hh]; exact va_Z.moved hA h3
  · rw [hh]; exact va_Zq.moved hA h4
def CJ (z : MD) (p : Program) (s : State) (m : MethodId) (args : Array Value) (meth : Method) (c : Code) (b ak av : Nat) : Prop :=
  p.tables.exec = Jvm.exec ∧ c.code = z.2.1 ∧ c.maxLocals = z.2.2.1 ∧ s.vm.findClass z.1.cls = some m.cls ∧ (∀ w ∈ gw, w.before args s = true) ∧ meth.sig.returnType = z.2.2.2.1 ∧ meth.locks = false ∧ KJ b ak av s
def Qj (r : Option Value) : Array Value → State → Outcome → State → Prop := fun _ st o t => o = .returned r ∧ t.heap = st.heap
def JW (l : Launch) (z : MD) (b ak av pc : Nat) (V : List (Nat × Value)) (S : List Value) (r : Option Value) : Prop :=
  ∀ (p : Program) (e : Env) (R : Room) (s : State) (m : MethodId) (args : Array Value) (below : List Frame) (meth : Method) (c : Code) (ls : Array Slot), CJ z p s m args meth c b ak av → z.2.2.2.2.1 ≤ R.frames → z.2.2.2.2.2 ≤ R.locals → lv_has ls z.2.2.1 V →
    W p l e R s m args below meth c s.heap [] 0 0 (MQ below (Qj r) args s 0 0 (fun _ => False)) (F0 m pc ls S)
theorem jmet {l : Launch} {z : MD} {b ak av : Nat} {vs : List Value} {r : Option Value} (hz : MW z) (hlen : (lg_sl vs).length ≤ z.2.2.1) (g : JW l z b ak av 0 (lv_args 0 vs) [] r) :
    Met l z.1 (wsm z) ({ frames := z.2.2.2.2.1, cells := 0, slots := 0, locals := z.2.2.2.2.2 }) (va_Pc vs (fun U => KJ b ak av U)) (Qj r) 0 0 (fun _ => False) := by
  refine Met.ofW (cc := z.2.1) (maxL := z.2.2.1) (ret := z.2.2.2.1) hz.2.2.1 rfl ?_
  intro p e s m args below meth c s₁ B hml hv
  obtain ⟨rfl, hK⟩ := hv
  have hts := atoms_spec (ws := wsm z) B.pre
  have hl := lv_entry vs (n := z.2.2.1) hlen
  rw [lg_entry_eq]
  exact g p e _ s m vs.toArray below meth c _ ⟨B.exec, B.bytes, hml, findClass_of_methodNamed B.named, fun w hw => hts w (List.mem_cons_of_mem _ hw), B.returns, B.notSynchronized, hK⟩ (Nat.le_refl _) (Nat.le_refl _) hl
theorem blind_J {av : List Value} {b ak aw : Nat} : FrameBlind (va_Pc av (fun U => KJ b ak aw U)) := by
  intro a U g mk q
  exact ⟨q.1, KJ.same (u := U) rfl rfl q.2⟩
section JR
variable {l : Launch} {y z : MD} {b ak av pc : Nat} {V : List (Nat × Value)} {S S0 : List Value} {r : Option Value}
theorem j_run {As : List Value} {r1 : Option Value} {n0 : Nat} (hpc : pc + 3 = n0)
    (hrun : ∀ (p : Program) (e : Env) (R : Room) (s : State) (m : MethodId) (args : Array Value) (below : List Frame) (meth : Method) (c : Code) (ls : Array Slot), CJ y p s m args meth c b ak av → y.2.2.2.2.1 ≤ R.frames → y.2.2.2.2.2 ≤ R.locals → lv_has ls y.2.2.1 V →
      ∃ a : Array Value, va_Run p l e R s m args below meth c s.heap [] 0 0 0 0 (F0 m pc ls S0) S (Qj r1 a) (fun _ => False))
    (k : JW l y b ak av n0 V (r1.toList ++ S) r) : JW l y b ak av pc V S0 r := by
  subst hpc
  intro p e R s m args below meth c ls C hf ho hl
  obtain ⟨a, hr⟩ := hrun p e R s m args below meth c ls C hf ho hl
  intro T hT X
  obtain ⟨v, st₀, t, T', Lc, h0, X', hL, e1, e2, ⟨hv, hh⟩, st⟩ := hr T hT X
  have hv' : v = r1 := by cases hv; rfl
  subst hv'
  have hLc : Lc = [] := List.eq_nil_iff_forall_not_mem.mpr (fun q hq => hL q hq)
  subst hLc
  obtain ⟨t2, a1, b1⟩ := k p e R s m args below meth c ls C hf ho hl T' (by rw [e1, hh, h0]) X'
  exact ⟨t2, st t2 a1, b1⟩
theorem j_callS {i : Nat} {As : List Value} {r1 : Option Value} (n0 : Nat) (d : decode y.2.1 pc = .ok (.invokestatic i, 3)) (hz : MW z) (hRM : RM y z) (hnp : np z As.length) (hw1 : Cond.methodLink y.1.cls i z.1 ∈ gw) (hw2 : Cond.static z.1 ∈ gw) (hS0 : S0 = As.reverse ++ S) (hst : (S.map fun v => v.category).sum ≤ 8) (hlen : (lg_sl As).length ≤ z.2.2.1) (hn : pc + 3 = n0)
    (g : JW l z b ak av 0 (lv_args 0 As) [] r1) (k : JW l y b ak av n0 V (r1.toList ++ S) r) : JW l y b ak av pc V S0 r := by
  refine j_run (As := As) hn (fun p e R s m args below meth c ls C hf ho hl => ⟨As.toArray, ?_⟩) k
  obtain ⟨hx, hb, hml, hown, hts, hr, hlk, hK⟩ := C
  have hM := jmet hz hlen g
  have hcb := callB_of (R := R) (args := args) (s := s) (n := As.length) (Ts := gw) (own := y.1.cls) (index := i) (y := z.1) (ws := wsm z) (rm := { frames := z.2.2.2.2.1, cells := 0, slots := 0, locals := z.2.2.2.2.2 }) hts (goodIn_gw hz) rfl rfl rfl (hts _ hz.2.1) (hts _ hw1) ⟨hz.2.2.2.1, hz.2.2.2.2, hnp⟩ ⟨Nat.le_trans hRM.1 hf, Nat.le_trans hRM.2 ho⟩
  exact va_runS (As := As) (rest := S) ⟨hx, hb, hml, hown, hts⟩ hM ⟨hcb, hts _ hw2⟩ ⟨blind_J, fun U hU hW => ⟨rfl, hK.warm hU hW⟩⟩ rfl rfl hl.1 hS0 (lv_room hst) d ⟨Nat.zero_le _, Nat.zero_le _⟩
theorem j_callV {i : Nat} {As : List Value} {r1 : Option Value} (n0 : Nat) (d : decode y.2.1 pc = .ok (.invokevirtual i, 3)) (hz : MW z) (hRM : RM y z) (hnp : np z As.length) (hw1 : Cond.methodLink y.1.cls i z.1 ∈ gw) (hw2 : Cond.instanceMethod z.1 ∈ gw) (hw3 : Cond.selects z.1.cls z.1 z.1 ∈ gw) (hcl : z.1.cls = "java/lang/String") (hS0 : S0 = As.reverse ++ .ref ak :: S) (hst : (S.map fun v => v.category).sum ≤ 8) (hlen : (lg_sl (.ref ak :: As)).length ≤ z.2.2.1) (hn : pc + 3 = n0)
    (g : JW l z b ak av 0 (lv_args 0 (.ref ak :: As)) [] r1) (k : JW l y b ak av n0 V (r1.toList ++ S) r) : JW l y b ak av pc V S0 r := by
  refine j_run (As := As) hn (fun p e R s m args below meth c ls C hf ho hl => ⟨(Value.ref ak :: As).toArray, ?_⟩) k
  obtain ⟨hx, hb, hml, hown, hts, hr, hlk, hK⟩ := C
  have hM := jmet hz hlen g
  have hG : GoodIn gw (wsV y.1.cls i z.1.cls z.1 (wsm z)) := by
    intro w hw
    rcases List.mem_append.mp hw with hw | hw
    · simp only [List.mem_cons, List.not_mem_nil, or_false] at hw
      rcases hw with rfl | rfl | rfl | rfl
      · exact ⟨hw1, good_of_word (gw_good hw1)⟩
      · exact ⟨hw2, good_of_word (gw_good hw2)⟩
      · exact ⟨hw3, good_of_word (gw_good hw3)⟩
      · exact ⟨hz.2.1, good_of_word (gw_good hz.2.1)⟩
    · exact goodIn_gw hz w hw
  have hcw := cwV (R := R) (args := args) (s := s) (n := As.length) (Ts := gw) (own := y.1.cls) (index := i) (C := z.1.cls) (y := z.1) (ws := wsm z) (rm := { frames := z.2.2.2.2.1, cells := 0, slots := 0, locals := z.2.2.2.2.2 }) hts hG rfl rfl rfl ⟨rfl, hz.2.2.2.1, hz.2.2.2.2, hnp⟩ ⟨Nat.le_trans hRM.1 hf, Nat.le_trans hRM.2 ho⟩
  refine va_runV (As := As) (rest := S) (b := ak) ⟨hx, hb, hml, hown, hts⟩ hM hcw ⟨blind_J, ?_, fun U hU hW => ⟨rfl, hK.warm hU hW⟩⟩ rfl rfl hl.1 hS0 (lv_room hst) d ⟨Nat.zero_le _, Nat.zero_le _⟩
  rw [hcl]
  exact vk_recv (i := 0) hK.1 (by omega) va_S.rf
theorem j_aload {i : Fin 4} {x : Nat} (q n : Nat) (d : decode y.2.1 pc = .ok (.aload_n i, 1)) (hq : V[q]? = some ((i : Nat), .ref x)) (hn : pc + 1 = n) (k : JW l y b ak av n V (.ref x :: S) r) : JW l y b ak av pc V S r := by
  subst hn
  exact fun p e R s m args below meth c ls C hf ho hl => lv_aload_n C.1 C.2.1 d rfl (lv_at hl q hq) (k p e R s m args below meth c ls C hf ho hl)
theorem j_iload {i : Fin 4} {x : Int32} (q n : Nat) (d : decode y.2.1 pc = .ok (.iload_n i, 1)) (hq : V[q]? = some ((i : Nat), .int x)) (hn : pc + 1 = n) (k : JW l y b ak av n V (.int x :: S) r) : JW l y b ak av pc V S r := by
  subst hn
  exact fun p e R s m args below meth c ls C hf ho hl => lv_iload_n C.1 C.2.1 d rfl (lv_at hl q hq) (k p e R s m args below meth c ls C hf ho hl)
theorem j_iconst {i : Int} {v : Int32} (n : Nat) (d : decode y.2.1 pc = .ok (.iconst i, 1)) (hv : Int32.ofInt i = v) (hn : pc + 1 = n) (k : JW l y b ak av n V (.int v :: S) r) : JW l y b ak av pc V S r := by
  subst hn
  exact fun p e R s m args below meth c ls C hf ho hl => lv_iconst C.1 C.2.1 d hv (k p e R s m args below meth c ls C hf ho hl)
theorem j_sipush {i : Int} {v : Int32} (n : Nat) (d : decode y.2.1 pc = .ok (.sipush i, 3)) (hv : (Int16.ofInt i).toInt32 = v) (hn : pc + 3 = n) (k : JW l y b ak av n V (.int v :: S) r) : JW l y b ak av pc V S r := by
  subst hn
  exact fun p e R s m args below meth c ls C hf ho hl => lv_sipush C.1 C.2.1 d hv (k p e R s m args below meth c ls C hf ho hl)
theorem j_ishr {x w v : Int32} (n : Nat) (d : decode y.2.1 pc = .ok (.ishr, 1)) (hv : x >>> (w &&& 31) = v) (hn : pc + 1 = n) (k : JW l y b ak av n V (.int v :: S) r) : JW l y b ak av pc V (.int w :: .int x :: S) r := by
  subst hn
  subst hv
  exact fun p e R s m args below meth c ls C hf ho hl => lv_ishr C.1 C.2.1 d (k p e R s m args below meth c ls C hf ho hl)
theorem j_iand {x w v : Int32} (n : Nat) (d : decode y.2.1 pc = .ok (.iand, 1)) (hv : x &&& w = v) (hn : pc + 1 = n) (k : JW l y b ak av n V (.int v :: S) r) : JW l y b ak av pc V (.int w :: .int x :: S) r := by
  subst hn
  subst hv
  exact fun p e R s m args below meth c ls C hf ho hl => lv_iand C.1 C.2.1 d (k p e R s m args below meth c ls C hf ho hl)
theorem j_i2c {x v : Int32} (n : Nat) (d : decode y.2.1 pc = .ok (.i2c, 1)) (hv : (x.toUInt32 % 65536).toInt32 = v) (hn : pc + 1 = n) (k : JW l y b ak av n V (.int v :: S) r) : JW l y b ak av pc V (.int x :: S) r := by
  subst hn
  exact fun p e R s m args below meth c ls C hf ho hl => lv_i2c C.1 C.2.1 d hv (k p e R s m args below meth c ls C hf ho hl)
theorem j_pop {v : Value} (n : Nat) (d : decode y.2.1 pc = .ok (.pop, 1)) (hv : v.category = 1) (hn : pc + 1 = n) (k : JW l y b ak av n V S r) : JW l y b ak av pc V (v :: S) r := by
  subst hn
  exact fun p e R s m args below meth c ls C hf ho hl => lv_pop C.1 C.2.1 d hv (k p e R s m args below meth c ls C hf ho hl)
theorem j_goto {off : Int} (t : Nat) (d : decode y.2.1 pc = .ok (.goto off, 3)) (ht : (pc : Int) + off = (t : Int)) (k : JW l y b ak av t V S r) : JW l y b ak av pc V S r :=
  fun p e R s m args below meth c ls C hf ho hl => lv_goto C.1 C.2.1 d ht (k p e R s m args below meth c ls C hf ho hl)
theorem j_ifeqN {x : Int32} {off : Int} (n : Nat) (d : decode y.2.1 pc = .ok (.ifCond .eq off, 3)) (t : Nat) (ht : (pc : Int) + off = (t : Int)) (hx : ¬ x = 0) (hn : pc + 3 = n) (k : JW l y b ak av n V S r) : JW l y b ak av pc V (.int x :: S) r := by
  subst hn
  exact fun p e R s m args below meth c ls C hf ho hl => lv_if_eq C.1 C.2.1 d ht (fun q => absurd q hx) (fun _ => k p e R s m args below meth c ls C hf ho hl)
theorem j_ifneN {off : Int} (n : Nat) (d : decode y.2.1 pc = .ok (.ifCond .ne off, 3)) (t : Nat) (ht : (pc : Int) + off = (t : Int)) (hn : pc + 3 = n) (k : JW l y b ak av n V S r) : JW l y b ak av pc V (.int 0 :: S) r := by
  subst hn
  exact fun p e R s m args below meth c ls C hf ho hl => lv_if_ne C.1 C.2.1 d ht (fun q => absurd rfl q) (fun _ => k p e R s m args below meth c ls C hf ho hl)
theorem j_ifltN {x : Int32} {off : Int} (n : Nat) (d : decode y.2.1 pc = .ok (.ifCond .lt off, 3)) (t : Nat) (ht : (pc : Int) + off = (t : Int)) (hx : ¬ x < 0) (hn : pc + 3 = n) (k : JW l y b ak av n V S r) : JW l y b ak av pc V (.int x :: S) r := by
  subst hn
  exact fun p e R s m args below meth c ls C hf ho hl => lv_if_lt C.1 C.2.1 d ht (fun q => absurd q hx) (fun _ => k p e R s m args below meth c ls C hf ho hl)
theorem j_iltT {x w : Int32} {off : Int} (t : Nat) (d : decode y.2.1 pc = .ok (.if_icmp .lt off, 3)) (ht : (pc : Int) + off = (t : Int)) (hx : x < w) (k : JW l y b ak av t V S r) : JW l y b ak av pc V (.int w :: .int x :: S) r :=
  fun p e R s m args below meth c ls C hf ho hl => lv_icmp_lt C.1 C.2.1 d ht (fun _ => k p e R s m args below meth c ls C hf ho hl) (fun q => absurd hx q)
theorem j_value {i : Nat} (n : Nat) (d : decode y.2.1 pc = .ok (.getfield i, 3)) (hw : Cond.fieldLink y.1.cls i "java/lang/String" "value" "[B" ∈ gw) (hn : pc + 3 = n) (k : JW l y b ak av n V (.ref av :: S) r) : JW l y b ak av pc V (.ref ak :: S) r := by
  subst hn
  exact fun p e R s m args below meth c ls C hf ho hl => vk_getf C.1 C.2.1 (C.2.2.2.2.2.2.2.1.1 0 (by omega)).2.2.1 va_S.rf C.2.2.2.1 (C.2.2.2.2.1 _ hw) (fun _ h => h) d (k p e R s m args below meth c ls C hf ho hl)
theorem j_coder {i : Nat} (n : Nat) (d : decode y.2.1 pc = .ok (.getfield i, 3)) (hw : Cond.fieldLink y.1.cls i "java/lang/String" "coder" "B" ∈ gw) (hn : pc + 3 = n) (k : JW l y b ak av n V (.int 0 :: S) r) : JW l y b ak av pc V (.ref ak :: S) r := by
  subst hn
  exact fun p e R s m args below meth c ls C hf ho hl => vk_getf C.1 C.2.1 (C.2.2.2.2.2.2.2.1.1 0 (by omega)).2.1 va_S.rf C.2.2.2.1 (C.2.2.2.2.1 _ hw) (fun _ h => h) d (k p e R s m args below meth c ls C hf ho hl)
theorem j_compact {i : Nat} (n : Nat) (d : decode y.2.1 pc = .ok (.getstatic i, 3)) (hw : Cond.fieldLink y.1.cls i "java/lang/String" "COMPACT_STRINGS" "Z" ∈ gw) (hn : pc + 3 = n) (k : JW l y b ak av n V (.int 1 :: S) r) : JW l y b ak av pc V S r := by
  subst hn
  exact fun p e R s m args below meth c ls C hf ho hl => va_gets C.1 C.2.1 C.2.2.2.2.2.2.2.2.1 va_S.rf C.2.2.2.1 (C.2.2.2.2.1 _ hw) (fun _ h => h) d (k p e R s m args below meth c ls C hf ho hl)
theorem j_format {i : Nat} (n : Nat) (d : decode y.2.1 pc = .ok (.getstatic i, 3)) (hw : Cond.fieldLink y.1.cls i "jdk/internal/util/Preconditions" "SIOOBE_FORMATTER" "Ljava/util/function/BiFunction;" ∈ gw) (hn : pc + 3 = n) (k : ∀ v : Value, (v = .null ∨ ∃ t, v = .ref t) → JW l y b ak av n V (v :: S) r) : JW l y b ak av pc V S r := by
  subst hn
  intro p e R s m args below meth c ls C hf ho hl
  rcases C.2.2.2.2.2.2.2.2.2 with h | ⟨t, h⟩
  · exact va_gets C.1 C.2.1 h va_S.rf C.2.2.2.1 (C.2.2.2.2.1 _ hw) (fun _ h => h) d (k _ (Or.inl rfl) p e R s m args below meth c ls C hf ho hl)
  · exact va_gets C.1 C.2.1 h va_S.rf C.2.2.2.1 (C.2.2.2.2.1 _ hw) (fun _ h => h) d (k _ (Or.inr ⟨t, rfl⟩) p e R s m args below meth c ls C hf ho hl)
theorem j_alen (n : Nat) (d : decode y.2.1 pc = .ok (.arraylength, 1)) (hn : pc + 1 = n) (k : JW l y b ak av n V (.int (Int32.ofNat 85) :: S) r) : JW l y b ak av pc V (.ref av :: S) r := by
  subst hn
  intro p e R s m args below meth c ls C hf ho hl
  obtain ⟨cell, h1, h2, h3, h4, h5, h6, h7⟩ := (C.2.2.2.2.2.2.2.1.1 0 (by omega)).2.2.2
  exact W.alen (n := Int32.ofNat 85) C.1 C.2.1 h1 h2 h5 rfl rfl d (k p e R s m args below meth c ls C hf ho hl)
theorem j_bald {x : Int32} {v : Int32} (n : Nat) (d : decode y.2.1 pc = .ok (.baload, 1)) (hx : vp_in x 85) (hv : jsB.getD x.toNatClampNeg 0 = v) (hn : pc + 1 = n) (k : JW l y b ak av n V (.int v :: S) r) : JW l y b ak av pc V (.int x :: .ref av :: S) r := by
  subst hn
  exact fun p e R s m args below meth c ls C hf ho hl => va_tb C.1 C.2.1 (C.2.2.2.2.2.2.2.1.1 0 (by omega)).2.2.2 va_S.rf hx (v := .int v) (by rw [← hv]; rfl) d (k p e R s m args below meth c ls C hf ho hl)
theorem j_ret {x : Int32} {ty : FieldType} (hr : y.2.2.2.1 = some ty) (hn : narrow ty (.int x) = .int x) (d : decode y.2.1 pc = .ok (.ireturn, 1)) (hrr : r = some (.int x)) : JW l y b ak av pc V [.int x] r := by
  subst hrr
  intro p e R s m args below meth c ls C hf ho hl
  have hlk := C.2.2.2.2.2.2.1
  exact W.zret C.1 C.2.1 (C.2.2.2.2.2.1.trans hr) hn (fun t ht hW => ⟨rfl, ht⟩) (fun q hq => by simp at hq) d hlk
theorem j_vret (hr : y.2.2.2.1 = none) (d : decode y.2.1 pc = .ok (.return_, 1)) (hrr : r = none) : JW l y b ak av pc V [] r := by
  subst hrr
  intro p e R s m args below meth c ls C hf ho hl
  have hlk := C.2.2.2.2.2.2.1
  exact W.vret C.1 C.2.1 (C.2.2.2.2.2.1.trans hr) (fun t ht hW => ⟨rfl, ht⟩) (fun q hq => by simp at hq) d hlk
end JR
