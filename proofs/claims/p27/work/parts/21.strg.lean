section SG
variable {l : Launch} {y : MD} {pc : Nat} {L : ML} {S : List Value} {h : MH} {Q : Option Value → MH → Prop}
theorem g_jcall {z : MD} {i : Nat} {As : List Value} {x : Int32} (n : Nat) (hz : MW z) (hcl : z.1.cls = "java/lang/String") (hRM : RM y z) (hnp : np z As.length) (hw1 : Cond.methodLink y.1.cls i z.1 ∈ gw) (hw2 : Cond.instanceMethod z.1 ∈ gw) (hw3 : Cond.selects z.1.cls z.1 z.1 ∈ gw) (hst : (S.map fun v => v.category).sum ≤ 8) (hlen : ∀ ak : Nat, (lg_sl (.ref ak :: As)).length ≤ z.2.2.1) (g : ∀ b ak av : Nat, JW l z b ak av 0 (lv_args 0 (.ref ak :: As)) [] (some (.int x)))
    (p : Program) (e : Env) (R : Room) (s : State) (m : MethodId) (args : Array Value) (below : List Frame) (meth : Method) (c : Code) (b : Nat) (D : va_G) (kA : Nat → ClassId) (H : Heap) (locs : List Loc) (cells slots : Nat) (ls : Array Slot) (Qf : State → Prop) (ak av : Nat)
    (C : Cx y p s m args meth c b D kA) (hf : y.2.2.2.2.1 ≤ R.frames) (ho : y.2.2.2.2.2 ≤ R.locals) (hc : cells ≤ R.cells) (hs : slots ≤ R.slots) (hS : va_S (fun q => b ≤ q) s.heap H locs) (hl : Lh b ls y.2.2.1 L) (hJ : KJ b ak av s) (d : decode y.2.1 n = .ok (.invokevirtual i, 3))
    (kk : W p l e R s m args below meth c H locs cells slots Qf (F0 m (n + 3) ls (.int x :: S.map (mv b)))) : W p l e R s m args below meth c H locs cells slots Qf (F0 m n ls (As.reverse ++ .ref ak :: S.map (mv b))) := by
  obtain ⟨hx, hb, hml, hown, hts, hr, hlk2, hnm, hK, hbs, hKS⟩ := C
  have hM := jmet (b := b) (ak := ak) (av := av) hz (hlen ak) (g b ak av)
  have hG : GoodIn gw (wsV y.1.cls i z.1.cls z.1 (wsm z)) := by
    intro w hw
    rcases List.mem_append.mp hw with hw | hw
    · simp only [List.mem_cons, List.not_mem_nil, or_false] at hw
      rcases hw with rfl | rfl | rfl | rfl
      · exact ⟨hw1, good_of_word (gw_good hw1)⟩
      · exact ⟨hw2, good_of_word (gw_good hw2)⟩
      · exact ⟨hw3, good_of_word (gw_good hw3)⟩
      · exact ⟨hz.2.1, good_of_word (gw_good hz.2.1)⟩
    · exact goodIn_gw hz w hw
  have hcw := cwV (R := R) (args := args) (s := s) (n := As.length) (Ts := gw) (own := y.1.cls) (index := i) (C := z.1.cls) (y := z.1) (ws := wsm z) (rm := { frames := z.2.2.2.2.1, cells := 0, slots := 0, locals := z.2.2.2.2.2 }) hts hG rfl rfl rfl ⟨rfl, hz.2.2.2.1, hz.2.2.2.2, hnp⟩ ⟨Nat.le_trans hRM.1 hf, Nat.le_trans hRM.2 ho⟩
  have hrun := va_runV (p := p) (e := e) (below := below) (meth := meth) (H := H) (locs := locs) (cells := cells) (slots := slots) (As := As) (rest := S.map (mv b)) (b := ak) (g := F0 m n ls (As.reverse ++ .ref ak :: S.map (mv b))) ⟨hx, hb, hml, hown, hts⟩ hM hcw ⟨blind_J, by rw [hcl]; exact vk_recv (i := 0) hJ.1 (by omega) hS, fun U hU hW => ⟨rfl, hJ.at hS hU hW⟩⟩ rfl rfl hl.1 rfl (lv_room (by rw [cat_mv]; exact hst)) d ⟨hc, hs⟩
  intro T hT X
  obtain ⟨v, st₀, t, T', Lc, h0, X', hL, e1, e2, ⟨hv, hh⟩, st⟩ := hrun T hT X
  have hv' : v = some (.int x) := by cases hv; rfl
  subst hv'
  have hLc : Lc = [] := List.eq_nil_iff_forall_not_mem.mpr (fun q hq => hL q hq)
  subst hLc
  rw [List.append_nil] at X'
  obtain ⟨t2, a1, b1⟩ := kk T' (by rw [e1, hh, h0]) X'
  exact ⟨t2, st t2 a1, b1⟩
theorem g_slen (n : Nat) (d1 : decode y.2.1 pc = .ok (.ldc 103, 2)) (d2 : decode y.2.1 (pc + 2) = .ok (.invokevirtual 105, 3)) (hy : y.1.cls = "LadderForge$NamedMaker") (hRM : RM y mJ0_length_8abf5) (hst : (S.map fun v => v.category).sum ≤ 8) (hn : pc + 5 = n) (k : Go l y n L (.int (iZ 85) :: S) h Q) : Go l y pc L S h Q := by
  subst hn
  refine Go.st (h1 := h) rfl rfl (fun p e R s m args below meth c b D kA H locs cells slots ls Qf C hf ho hc hs hR hS hl kk => ?_) k
  have C' := C
  obtain ⟨hx, hb, hml, hown, hts, hr, hlk2, hnm, hK, hbs, hKS⟩ := C
  obtain ⟨ak, av, hJ, hRr⟩ := hKS.j
  refine va_ldcS hx hb hown (by rw [hy]; exact hRr) d1 ?_
  refine g_jcall (As := []) (x := Int32.ofNat 85) (pc + 2) mwJ0_length_8abf5 rfl hRM rfl (by rw [hy]; exact wlJ_105) wiJ0_length_8abf5 wsJ0_length_8abf5 hst (fun _ => nle rfl) (fun _ _ _ => jc_len) p e R s m args below meth c b D kA H locs cells slots ls Qf ak av C' hf ho hc hs hS hl hJ d2 ?_
  have k2 := kk H locs ls hR hS hl
  have e85 : iZ 85 = Int32.ofNat 85 := by decide +kernel
  rw [e85] at k2
  exact k2
theorem g_schr {j : Nat} {z : Int} (n : Nat) (d1 : decode y.2.1 pc = .ok (.ldc 103, 2)) (d3 : decode y.2.1 (pc + 2) = .ok (.iload j, 2)) (d2 : decode y.2.1 (pc + 4) = .ok (.invokevirtual 109, 3)) (hg : L[j]? = some (some (.int (iZ z)))) (h0 : 0 ≤ z) (h1 : z < 85) (hy : y.1.cls = "LadderForge$NamedMaker") (hRM : RM y mJ0_charAt_5068e) (hst : (S.map fun v => v.category).sum ≤ 8) (hn : pc + 7 = n) (k : Go l y n L (.int (jsB.getD z.toNat 0) :: S) h Q) : Go l y pc L S h Q := by
  subst hn
  refine Go.st (h1 := h) rfl rfl (fun p e R s m args below meth c b D kA H locs cells slots ls Qf C hf ho hc hs hR hS hl kk => ?_) k
  have C' := C
  obtain ⟨hx, hb, hml, hown, hts, hr, hlk2, hnm, hK, hbs, hKS⟩ := C
  obtain ⟨ak, av, hJ, hRr⟩ := hKS.j
  refine va_ldcS hx hb hown (by rw [hy]; exact hRr) d1 ?_
  refine lv_iload hx hb d3 (hl.2.2 _ _ hg) ?_
  refine g_jcall (As := [.int (iZ z)]) (x := jsB.getD (iZ z).toNatClampNeg 0) (pc + 4) mwJ0_charAt_5068e rfl hRM rfl (by rw [hy]; exact wlJ_109) wiJ0_charAt_5068e wsJ0_charAt_5068e hst (fun _ => nle rfl) (fun _ _ _ => jc_ch (iZ_inI h0 (by omega) (by decide))) p e R s m args below meth c b D kA H locs cells slots ls Qf ak av C' hf ho hc hs hS hl hJ d2 ?_
  have k2 := kk H locs ls hR hS hl
  rw [iZ_cl h0 (by omega)]
  exact k2
end SG
