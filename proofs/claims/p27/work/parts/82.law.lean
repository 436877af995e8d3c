theorem iZ_nat (n : Nat) : Int32.ofNat n = iZ (n : Int) := Int32.ofInt_eq_ofNat.symm
section LAW
variable {p : Program} {l : Launch} {e : Env} {s : State} {m : MethodId} {below : List Frame} {meth : Method} {c : Code} {b0 N : Nat} {xs : Nat → Int32} {D : va_G} {kA : Nat → ClassId} {pc : Nat} {V : List (Nat × Value)} {S S0 : List Value} {h : MH}
/-- the law at pc, its locals V, its stack S, the cells h: from here it comes to its end with true -/
def Lw (p : Program) (l : Launch) (e : Env) (s : State) (m : MethodId) (below : List Frame) (meth : Method) (c : Code) (b0 : Nat) (D : va_G) (kA : Nat → ClassId) (pc : Nat) (V : List (Nat × Value)) (S : List Value) (h : MH) : Prop :=
  ∀ (H : Heap) (locs : List Loc) (ls : Array Slot), Rp s.heap.size D kA h H → va_S (fun q => s.heap.size ≤ q) s.heap H locs → lv_has ls 4 V → W p l e room_1 s m #[Value.ref b0] below meth c H locs h.length (msz h) (lw_Z below #[Value.ref b0] s) (F0 m pc ls S)
theorem lw_iconst {i : Int} {v : Int32} (C : lw_At p s m meth c b0 N xs) (n : Nat) (d : decode code pc = .ok (.iconst i, 1)) (hv : Int32.ofInt i = v) (hn : pc + 1 = n) (k : Lw p l e s m below meth c b0 D kA n V (.int v :: S) h) : Lw p l e s m below meth c b0 D kA pc V S h := by
  subst hn
  exact fun H locs ls hR hS hl => lv_iconst C.1 C.2.1 d hv (k H locs ls hR hS hl)
theorem lw_bipush {i : Int} {v : Int32} (C : lw_At p s m meth c b0 N xs) (n : Nat) (d : decode code pc = .ok (.bipush i, 2)) (hv : (Int8.ofInt i).toInt32 = v) (hn : pc + 2 = n) (k : Lw p l e s m below meth c b0 D kA n V (.int v :: S) h) : Lw p l e s m below meth c b0 D kA pc V S h := by
  subst hn
  exact fun H locs ls hR hS hl => lv_bipush C.1 C.2.1 d hv (k H locs ls hR hS hl)
theorem lw_aload {i : Fin 4} {x : Nat} (C : lw_At p s m meth c b0 N xs) (n q : Nat) (d : decode code pc = .ok (.aload_n i, 1)) (hq : V[q]? = some ((i : Nat), .ref x)) (hn : pc + 1 = n) (k : Lw p l e s m below meth c b0 D kA n V (.ref x :: S) h) : Lw p l e s m below meth c b0 D kA pc V S h := by
  subst hn
  exact fun H locs ls hR hS hl => lv_aload_n C.1 C.2.1 d rfl (lv_at hl q hq) (k H locs ls hR hS hl)
theorem lw_iload {i : Fin 4} {x : Int32} (C : lw_At p s m meth c b0 N xs) (n q : Nat) (d : decode code pc = .ok (.iload_n i, 1)) (hq : V[q]? = some ((i : Nat), .int x)) (hn : pc + 1 = n) (k : Lw p l e s m below meth c b0 D kA n V (.int x :: S) h) : Lw p l e s m below meth c b0 D kA pc V S h := by
  subst hn
  exact fun H locs ls hR hS hl => lv_iload_n C.1 C.2.1 d rfl (lv_at hl q hq) (k H locs ls hR hS hl)
theorem lw_i2l {x : Int32} (C : lw_At p s m meth c b0 N xs) (n : Nat) (d : decode code pc = .ok (.i2l, 1)) (hn : pc + 1 = n) (k : Lw p l e s m below meth c b0 D kA n V (.long x.toInt64 :: S) h) : Lw p l e s m below meth c b0 D kA pc V (.int x :: S) h := by
  subst hn
  exact fun H locs ls hR hS hl => lv_i2l C.1 C.2.1 d rfl (k H locs ls hR hS hl)
theorem lw_lshl {x : Int64} {z : Int32} (C : lw_At p s m meth c b0 N xs) (n : Nat) (d : decode code pc = .ok (.lshl, 1)) (hn : pc + 1 = n) (k : Lw p l e s m below meth c b0 D kA n V (.long (x <<< (z.toInt64 &&& 63)) :: S) h) : Lw p l e s m below meth c b0 D kA pc V (.int z :: .long x :: S) h := by
  subst hn
  exact fun H locs ls hR hS hl => lv_lshl C.1 C.2.1 d rfl (k H locs ls hR hS hl)
theorem lw_land {x z : Int64} (C : lw_At p s m meth c b0 N xs) (n : Nat) (d : decode code pc = .ok (.land, 1)) (hn : pc + 1 = n) (k : Lw p l e s m below meth c b0 D kA n V (.long (x &&& z) :: S) h) : Lw p l e s m below meth c b0 D kA pc V (.long z :: .long x :: S) h := by
  subst hn
  exact fun H locs ls hR hS hl => lv_land C.1 C.2.1 d (k H locs ls hR hS hl)
theorem lw_lor {x z : Int64} (C : lw_At p s m meth c b0 N xs) (n : Nat) (d : decode code pc = .ok (.lor, 1)) (hn : pc + 1 = n) (k : Lw p l e s m below meth c b0 D kA n V (.long (x ||| z) :: S) h) : Lw p l e s m below meth c b0 D kA pc V (.long z :: .long x :: S) h := by
  subst hn
  exact fun H locs ls hR hS hl => lv_lor C.1 C.2.1 d (k H locs ls hR hS hl)
theorem lw_ldc2 (C : lw_At p s m meth c b0 N xs) (n : Nat) (d : decode code pc = .ok (.ldc2_w 13, 3)) (hn : pc + 3 = n) (k : Lw p l e s m below meth c b0 D kA n V (.long 4294967295 :: S) h) : Lw p l e s m below meth c b0 D kA pc V S h := by
  subst hn
  exact fun H locs ls hR hS hl => lv_ldc2 C.1 C.2.1 C.2.2.2.2.1 (C.2.2.2.2.2.1 _ (gw_tbl wnL)) d (k H locs ls hR hS hl)
theorem lw_goto {off : Int} (C : lw_At p s m meth c b0 N xs) (t : Nat) (d : decode code pc = .ok (.goto off, 3)) (ht : (pc : Int) + off = (t : Int)) (k : Lw p l e s m below meth c b0 D kA t V S h) : Lw p l e s m below meth c b0 D kA pc V S h :=
  fun H locs ls hR hS hl => lv_goto C.1 C.2.1 d ht (k H locs ls hR hS hl)
/-- both answers are the same -/
theorem lw_same {x z : Int32} {off : Int} (C : lw_At p s m meth c b0 N xs) (t : Nat) (d : decode code pc = .ok (.if_icmp .eq off, 3)) (ht : (pc : Int) + off = (t : Int)) (hxz : x = z) (k : Lw p l e s m below meth c b0 D kA t V S h) : Lw p l e s m below meth c b0 D kA pc V (.int z :: .int x :: S) h :=
  fun H locs ls hR hS hl => lv_icmp_eq C.1 C.2.1 d ht (fun _ => k H locs ls hR hS hl) (fun q => absurd hxz q)
theorem lw_sameL {x z : Int64} {off : Int} (C : lw_At p s m meth c b0 N xs) (t : Nat) (d : decode code pc = .ok (.lcmp, 1)) (d2 : decode code (pc + 1) = .ok (.ifCond .eq off, 3)) (ht : ((pc + 1 : Nat) : Int) + off = (t : Int)) (hxz : x = z) (k : Lw p l e s m below meth c b0 D kA t V S h) : Lw p l e s m below meth c b0 D kA pc V (.long z :: .long x :: S) h :=
  fun H locs ls hR hS hl => W.lcmp C.1 C.2.1 d (lv_if_eq C.1 C.2.1 d2 ht (fun _ => k H locs ls hR hS hl) (fun q => absurd (by subst hxz; simp [lg_cmp]) q))
/-- the law's locals -/
def vLaw (b b0 i : Nat) : List (Nat × Value) := [(3, .int (iZ (i : Int))), (2, .ref (b + 50)), (1, .ref (b + 0)), (0, .ref b0)]
/-- script[i + j] -/
theorem lw_arg {i : Nat} {jj : Int} (C : lw_At p s m meth c b0 N xs) (j n : Nat) (d0 : decode code pc = .ok (.aload_n 0, 1)) (d1 : decode code (pc + 1) = .ok (.iload_n 3, 1)) (d2 : decode code (pc + 2) = .ok (.iconst jj, 1)) (d3 : decode code (pc + 3) = .ok (.iadd, 1)) (d4 : decode code (pc + 4) = .ok (.iaload, 1)) (hj : jj = (j : Int)) (hi : i + j < N) (hN : N ≤ 2048) (hn : pc + 5 = n)
    (k : Lw p l e s m below meth c b0 D kA n (vLaw s.heap.size b0 i) (.int (iZ (xs (i + j)).toInt) :: S) h) : Lw p l e s m below meth c b0 D kA pc (vLaw s.heap.size b0 i) S h := by
  subst hn
  subst hj
  intro H locs ls hR hS hl
  refine lv_aload_n C.1 C.2.1 d0 rfl (lv_at hl 3 rfl) ?_
  refine lv_iload_n C.1 C.2.1 d1 rfl (lv_at hl 0 rfl) ?_
  refine lv_iconst (v := iZ (j : Int)) C.1 C.2.1 d2 rfl ?_
  refine lv_iadd C.1 C.2.1 d3 ?_
  rw [iZ_add]
  have hz : (0 : Int) ≤ (i : Int) + (j : Int) := by omega
  refine va_sld C.1 C.2.1 C.2.2.2.2.2.2.1 C.2.2.2.2.2.2.2.1 (Nat.not_le.mpr C.2.2.2.2.2.2.2.1) hS (iZ_inI hz (by omega) (by omega)) d4 ?_
  rw [iZ_cl hz (by omega), show ((i : Int) + (j : Int)).toNat = i + j by omega]
  have k2 := k H locs ls hR hS hl
  rw [iZ_of] at k2
  exact k2
/-- the loop's head -/
theorem lw_head {i : Nat} (C : lw_At p s m meth c b0 N xs) (hN : N ≤ 2048) (hi : i ≤ 4096) (kx : N < i + 4 → Lw p l e s m below meth c b0 D kA 1030 (vLaw s.heap.size b0 i) [] h) (kb : i + 4 ≤ N → Lw p l e s m below meth c b0 D kA 26 (vLaw s.heap.size b0 i) [] h) : Lw p l e s m below meth c b0 D kA 18 (vLaw s.heap.size b0 i) [] h := by
  intro H locs ls hR hS hl
  refine lv_iload_n C.1 C.2.1 dL_law_18 rfl (lv_at hl 0 rfl) ?_
  refine lv_aload_n C.1 C.2.1 dL_law_19 rfl (lv_at hl 3 rfl) ?_
  refine va_slen C.1 C.2.1 C.2.2.2.2.2.2.1 C.2.2.2.2.2.2.2.1 (Nat.not_le.mpr C.2.2.2.2.2.2.2.1) hS dL_law_20 ?_
  refine lv_iconst (v := iZ 4) C.1 C.2.1 dL_law_21 rfl ?_
  refine lv_isub C.1 C.2.1 dL_law_22 ?_
  rw [iZ_nat, iZ_sub]
  have r1 : rg ((N : Int) - 4) := ⟨by omega, by omega⟩
  have r2 : rg (i : Int) := ⟨by omega, by omega⟩
  refine lv_icmp_gt (tgt := 1030) C.1 C.2.1 dL_law_23 rfl (fun q => ?_) (fun q => ?_)
  · have := (iZ_lt r1 r2).mp q
    exact kx (by omega) H locs ls hR hS hl
  · have hq : ¬ ((N : Int) - 4 < (i : Int)) := fun z => q ((iZ_lt r1 r2).mpr z)
    exact kb (by omega) H locs ls hR hS hl
theorem lw_next {i : Nat} (C : lw_At p s m meth c b0 N xs) (k : Lw p l e s m below meth c b0 D kA 18 (vLaw s.heap.size b0 (i + 4)) [] h) : Lw p l e s m below meth c b0 D kA 1024 (vLaw s.heap.size b0 i) [] h := by
  intro H locs ls hR hS hl
  refine lv_iinc (k := 0) (v := iZ ((i + 4 : Nat) : Int)) (lv' := vLaw s.heap.size b0 (i + 4)) C.1 C.2.1 dL_law_1024 hl rfl (by show iZ (i : Int) + iZ 4 = _; rw [iZ_add]; congr 1) (by decide) rfl (fun ls hl => ?_)
  exact lv_goto (tgt := 18) C.1 C.2.1 dL_law_1027 rfl (k H locs ls hR hS hl)
theorem lw_true {i : Nat} (C : lw_At p s m meth c b0 N xs) (h1 : h.length ≤ 600000) (h2 : msz h ≤ 7302250) : Lw p l e s m below meth c b0 D kA 1030 (vLaw s.heap.size b0 i) [] h := by
  intro H locs ls hR hS hl
  refine lv_iconst (v := 1) C.1 C.2.1 dL_law_1030 (by decide) ?_
  refine va_forget hS.2.2 ?_
  refine W.widen (k := 600000) (n := 7302250) h1 h2 ?_
  exact lw_ret C.1 C.2.1 C.2.2.1 C.2.2.2.2.2.2.2.2.1 dL_law_1031
theorem lw_callV {z : MD} {i a ci : Nat} {fs As : List Value} {r : vw_C} (C : lw_At p s m meth c b0 N xs) (hK : Kx D kA s) (hKS : KS s.heap.size s) (n0 : Nat) (d : decode code pc = .ok (.invokevirtual i, 3)) (hz : MW z) (hRM : z.2.2.2.2.1 + 1 ≤ 13 ∧ 8 + (z.2.2.1 + 11) + z.2.2.2.2.2 ≤ 506) (hnp : np z As.length) (hw1 : Cond.methodLink R_law i z.1 ∈ gw) (hw2 : Cond.instanceMethod z.1 ∈ gw) (hw3 : Cond.selects z.1.cls z.1 z.1 ∈ gw)
    (ha : h[a]? = some (.inr (ci, fs))) (hc0 : vwCl[ci]? = some r) (hr1 : r.1 = z.1.cls) (hS0 : S0 = (As.map (mv s.heap.size)).reverse ++ .ref (s.heap.size + a) :: S) (hst : (S.map fun v => v.category).sum ≤ 8) (hlen : (Le (.ref a :: As)).length ≤ z.2.2.1) (hn : pc + 3 = n0)
    (kk : Go l z 0 (Len (.ref a :: As) z.2.2.1) [] h (fun r1 h1 => h1.length ≤ 600000 ∧ msz h1 ≤ 7302250 ∧ Lw p l e s m below meth c b0 D kA n0 V ((r1.map (mv s.heap.size)).toList ++ S) h1)) : Lw p l e s m below meth c b0 D kA pc V S0 h := by
  subst hn
  subst hS0
  intro H locs ls hR hS hl
  obtain ⟨r1, h1, ⟨hb1, hb2, hgo⟩, g⟩ := kk
  have hts : ∀ w ∈ gw, w.before #[Value.ref b0] s = true := fun w hw => C.2.2.2.2.2.1 w (gw_tbl hw)
  have hM := met_G hz hlen g s.heap.size D kA
  have hG : GoodIn gw (wsV R_law i z.1.cls z.1 (wsm z)) := by
    intro w hw
    rcases List.mem_append.mp hw with hw | hw
    · simp only [List.mem_cons, List.not_mem_nil, or_false] at hw
      rcases hw with rfl | rfl | rfl | rfl
      · exact ⟨hw1, good_of_word (gw_good hw1)⟩
      · exact ⟨hw2, good_of_word (gw_good hw2)⟩
      · exact ⟨hw3, good_of_word (gw_good hw3)⟩
      · exact ⟨hz.2.1, good_of_word (gw_good hz.2.1)⟩
    · exact goodIn_gw hz w hw
  have hcw := cwV (R := room_1) (args := #[Value.ref b0]) (s := s) (n := As.length) (Ts := gw) (own := R_law) (index := i) (C := z.1.cls) (y := z.1) (ws := wsm z) (rm := { frames := z.2.2.2.2.1, cells := h1.length - h.length, slots := msz h1 - msz h, locals := z.2.2.2.2.2 }) hts hG rfl rfl rfl ⟨rfl, hz.2.2.2.1, hz.2.2.2.2, hnp⟩ ⟨hRM.1, hRM.2⟩
  have hle := g.1
  have hms := g.2.1
  have hr := va_runV (p := p) (e := e) (below := below) (meth := meth) (locs := locs) (cells := h.length) (slots := msz h) (As := As.map (mv s.heap.size)) (rest := S) (b := s.heap.size + a) (g := F0 m pc ls ((As.map (mv s.heap.size)).reverse ++ .ref (s.heap.size + a) :: S)) ⟨C.1, C.2.1, C.2.2.2.1, C.2.2.2.2.1, hts⟩ hM hcw ⟨blind_G, by rw [← hr1]; exact va_recv hK.1 hR.2 hc0 (mw_at ha), fun U hU hW => ⟨rfl, by rw [hU]; exact hR, hK.warm hW, hKS.warm hS hU hW⟩⟩ rfl (by simp) hl.1 rfl (lv_room hst) d ⟨by show h.length + (h1.length - h.length) ≤ 600000; omega, by show msz h + (msz h1 - msz h) ≤ 7302250; omega⟩
  intro T hT X
  obtain ⟨v, st₀, t, T', Lc, h0, X', hL, e1, e2, ⟨hv, hR1, hz2, hk⟩, st⟩ := hr T hT X
  have hv' : v = r1.map (mv s.heap.size) := by cases hv; rfl
  subst hv'
  rw [h0] at hz2 hk
  have ec : h.length + (h1.length - h.length) = h1.length := by omega
  have em : msz h + (msz h1 - msz h) = msz h1 := by omega
  rw [ec, em] at X'
  obtain ⟨t2, a1, b1⟩ := hgo T'.heap (locs ++ Lc) ls (by rw [e1]; exact hR1) ⟨Nat.le_trans hS.1 (by rw [e1]; exact hz2), fun q q1 q2 => by rw [e1, hk q (Nat.lt_of_lt_of_le q1 hS.1) q2]; exact hS.2.1 q q1 q2, fun q hq => by
      rcases List.mem_append.mp hq with q1 | q1
      · exact hS.2.2 q q1
      · exact hL q q1⟩ hl T' rfl X'
  exact ⟨t2, st t2 a1, b1⟩
theorem lw_callI {z : MD} {i a : Nat} (C : lw_At p s m meth c b0 N xs) (hK : Kx D kA s) (hKS : KS s.heap.size s) (n0 : Nat) (d : decode code pc = .ok (.invokespecial i, 3)) (hz : MW z) (hret : z.2.2.2.1 = none) (hRM : z.2.2.2.2.1 + 1 ≤ 13 ∧ 8 + (z.2.2.1 + 11) + z.2.2.2.2.2 ≤ 506) (hnp : np z 0) (hw1 : Cond.methodLink R_law i z.1 ∈ gw) (hw2 : Cond.instanceMethod z.1 ∈ gw) (hnm0 : z.1.name = "<init>")
    (hst : (S.map fun v => v.category).sum ≤ 8) (hlen : (Le [.ref a]).length ≤ z.2.2.1) (hn : pc + 3 = n0)
    (kk : Go l z 0 (Len [.ref a] z.2.2.1) [] h (fun r1 h1 => h1.length ≤ 600000 ∧ msz h1 ≤ 7302250 ∧ Lw p l e s m below meth c b0 D kA n0 V ((r1.map (mv s.heap.size)).toList ++ S) h1)) : Lw p l e s m below meth c b0 D kA pc V (.ref (s.heap.size + a) :: S) h := by
  subst hn
  intro H locs ls hR hS hl
  obtain ⟨r1, h1, ⟨hb1, hb2, hgo⟩, g⟩ := kk
  have hts : ∀ w ∈ gw, w.before #[Value.ref b0] s = true := fun w hw => C.2.2.2.2.2.1 w (gw_tbl hw)
  have hM := met_G hz hlen g s.heap.size D kA
  have hcb := callB_of (R := room_1) (args := #[Value.ref b0]) (s := s) (n := 0) (Ts := gw) (own := R_law) (index := i) (y := z.1) (ws := wsm z) (ret := none) (rm := { frames := z.2.2.2.2.1, cells := h1.length - h.length, slots := msz h1 - msz h, locals := z.2.2.2.2.2 }) hts (goodIn_gw hz) (by unfold wsm; rw [hret]) rfl rfl (hts _ hz.2.1) (hts _ hw1) ⟨hz.2.2.2.1, hz.2.2.2.2, hnp⟩ ⟨hRM.1, hRM.2⟩
  have hle := g.1
  have hms := g.2.1
  have hr := va_runI (p := p) (e := e) (below := below) (meth := meth) (locs := locs) (cells := h.length) (slots := msz h) (As := []) (rest := S) (b := s.heap.size + a) (g := F0 m pc ls (.ref (s.heap.size + a) :: S)) ⟨C.1, C.2.1, C.2.2.2.1, C.2.2.2.2.1, hts⟩ hM ⟨hcb, hnm0, hts _ hw2⟩ ⟨blind_G, fun U hU hW => ⟨rfl, by rw [hU]; exact hR, hK.warm hW, hKS.warm hS hU hW⟩⟩ rfl rfl hl.1 rfl (lv_room hst) d ⟨by show h.length + (h1.length - h.length) ≤ 600000; omega, by show msz h + (msz h1 - msz h) ≤ 7302250; omega⟩
  intro T hT X
  obtain ⟨v, st₀, t, T', Lc, h0, X', hL, e1, e2, ⟨hv, hR1, hz2, hk⟩, st⟩ := hr T hT X
  have hv' : v = r1.map (mv s.heap.size) := by cases hv; rfl
  subst hv'
  rw [h0] at hz2 hk
  have ec : h.length + (h1.length - h.length) = h1.length := by omega
  have em : msz h + (msz h1 - msz h) = msz h1 := by omega
  rw [ec, em] at X'
  obtain ⟨t2, a1, b1⟩ := hgo T'.heap (locs ++ Lc) ls (by rw [e1]; exact hR1) ⟨Nat.le_trans hS.1 (by rw [e1]; exact hz2), fun q q1 q2 => by rw [e1, hk q (Nat.lt_of_lt_of_le q1 hS.1) q2]; exact hS.2.1 q q1 q2, fun q hq => by
      rcases List.mem_append.mp hq with q1 | q1
      · exact hS.2.2 q q1
      · exact hL q q1⟩ hl T' rfl X'
  exact ⟨t2, st t2 a1, b1⟩
theorem lw_new {i ci : Nat} {fs : List Value} (C : lw_At p s m meth c b0 N xs) (hK : Kx D kA s) (n : Nat) (d : decode code pc = .ok (.new i, 3)) (hF : FN R_law i ci fs) (hn : pc + 3 = n) (hc : h.length + 1 ≤ 600000) (hs : msz h + fs.length ≤ 7302250) (kk : Lw p l e s m below meth c b0 D kA n V (.ref (s.heap.size + h.length) :: S) (h ++ [.inr (ci, fs)])) : Lw p l e s m below meth c b0 D kA pc V S h := by
  subst hn
  obtain ⟨C0, T, N1, ty0, hc0, hin, hty, hw1, hw2, hw3, hfs, hlen, hmap⟩ := hF
  intro H locs ls hR hS hl
  have hts : ∀ w ∈ gw, w.before #[Value.ref b0] s = true := fun w hw => C.2.2.2.2.2.1 w (gw_tbl hw)
  have e1 : (h ++ [(.inr (ci, fs) : va_E)]).length = h.length + 1 := by simp
  have e2 : msz (h ++ [(.inr (ci, fs) : va_E)]) = msz h + N1 := by rw [msz_push]; simp [mcl, hlen]
  unfold Lw at kk
  rw [e1, e2] at kk
  have hKn := hK.1.1 ci _ hc0
  refine W.newcK C.1 C.2.1 C.2.2.2.2.1 (hts _ hw1) (hts _ hw2) (hts _ hw3) rfl d hc (by show msz h + N1 ≤ 7302250; omega) hKn.2.1 hR.1 fun H1 kC hkC q1 z1 o1 => ?_
  have hk : ∀ (k : Nat) (x : Nat × va_E), (mw s.heap.size kA h)[k]? = some x → H1[x.1]? = H[x.1]? := fun k x hx => o1 x.1 (by have := (hR.2 k x hx).lt; rw [hR.1] at this; exact this)
  refine kk H1 locs ls ⟨by rw [z1]; simp; omega, ?_⟩ ⟨Nat.le_trans hS.1 (by rw [z1, hR.1]; omega), fun x h1 h2 => (o1 x (by have := Nat.lt_of_lt_of_le h1 hS.1; rw [hR.1] at this; exact this)).trans (hS.2.1 x h1 h2), hS.2.2⟩ hl
  rw [mw_push]
  refine (hR.2.kept hk).app (fun k x hx => ?_)
  have hz : k < 1 := (List.getElem?_eq_some_iff.mp hx).1
  rw [show k = 0 by omega] at hx
  cases hx
  have : me s.heap.size kA (.inr (ci, fs)) = .inr (ci, fs) := by simp [me, hmap s.heap.size]
  rw [this]
  exact ⟨_, hc0, (u_born ty0 hts hin hKn hkC q1 hty).to hfs⟩
theorem lw_dup {v : Value} (C : lw_At p s m meth c b0 N xs) (n : Nat) (d : decode code pc = .ok (.dup, 1)) (hv : v.category = 1) (hn : pc + 1 = n) (k : Lw p l e s m below meth c b0 D kA n V (v :: v :: S) h) : Lw p l e s m below meth c b0 D kA pc V (v :: S) h := by
  subst hn
  exact fun H locs ls hR hS hl => lv_dup C.1 C.2.1 d hv (k H locs ls hR hS hl)
theorem lw_astore {i : Fin 4} {x : Nat} (C : lw_At p s m meth c b0 N xs) (V1 : List (Nat × Value)) (n : Nat) (d : decode code pc = .ok (.astore_n i, 1)) (hV : ((i : Nat), Value.ref x) :: V.filter (fun q => !(q.1 == (i : Nat)) && !(q.1 + 1 == (i : Nat) && q.2.category == 2)) = V1) (hn : pc + 1 = n) (k : Lw p l e s m below meth c b0 D kA n V1 S h) : Lw p l e s m below meth c b0 D kA pc V (.ref x :: S) h := by
  subst hn
  exact fun H locs ls hR hS hl => lv_astore_n C.1 C.2.1 d rfl hl i.2 hV (fun ls hl => k H locs ls hR hS hl)
theorem lw_istore {i : Fin 4} {x : Int32} (C : lw_At p s m meth c b0 N xs) (V1 : List (Nat × Value)) (n : Nat) (d : decode code pc = .ok (.istore_n i, 1)) (hV : ((i : Nat), Value.int x) :: V.filter (fun q => !(q.1 == (i : Nat)) && !(q.1 + 1 == (i : Nat) && q.2.category == 2)) = V1) (hn : pc + 1 = n) (k : Lw p l e s m below meth c b0 D kA n V1 S h) : Lw p l e s m below meth c b0 D kA pc V (.int x :: S) h := by
  subst hn
  exact fun H locs ls hR hS hl => lv_istore_n C.1 C.2.1 d rfl hl i.2 hV (fun ls hl => k H locs ls hR hS hl)
/-- what the tables say of the start -/
theorem law_K (C : lw_At p s m meth c b0 N xs) : ∃ (D : va_G) (kA : Nat → ClassId), Kx D kA s := by
  have ht := C.2.2.2.2.2.1
  have hts : ∀ w ∈ gw, w.before #[Value.ref b0] s = true := fun w hw => ht w (gw_tbl hw)
  obtain ⟨c0, i0, k0⟩ := u_known (C := RX0) (T := TX0) (N := 4) (n := 4) hts inwX0 (hts _ winsX0)
  obtain ⟨c1, i1, k1⟩ := u_known (C := RX1) (T := TX1) (N := 4) (n := 4) hts inwX1 (hts _ winsX1)
  obtain ⟨c2, i2, k2⟩ := u_known (C := RX2) (T := TX2) (N := 9) (n := 9) hts inwX2 (hts _ winsX2)
  obtain ⟨c3, i3, k3⟩ := u_known (C := RX4) (T := TX4) (N := 5) (n := 5) hts inwX4 (hts _ winsX4)
  obtain ⟨c4, i4, k4⟩ := u_known (C := RX5) (T := TX5) (N := 1) (n := 1) hts inwX5 (hts _ winsX5)
  obtain ⟨c5, i5, k5⟩ := u_known (C := RX6) (T := TX6) (N := 2) (n := 2) hts inwX6 (hts _ winsX6)
  obtain ⟨c6, i6, k6⟩ := u_known (C := RX7) (T := TX7) (N := 5) (n := 5) hts inwX7 (hts _ winsX7)
  obtain ⟨c7, i7, k7⟩ := u_known (C := RX8) (T := TX8) (N := 11) (n := 11) hts inwX8 (hts _ winsX8)
  obtain ⟨c8, i8, k8⟩ := u_known (C := RX9) (T := TX9) (N := 39) (n := 39) hts inwX9 (hts _ winsX9)
  obtain ⟨a0, a0k, a0c, a01, a02, a03⟩ := Cond.arrayClass_spec (hts _ wArrI)
  obtain ⟨a1, a1k, a1c, a11, a12, a13⟩ := Cond.arrayClass_spec (hts _ wArrB)
  obtain ⟨a2c, a2, a2k, a21, -, a22, a23, a24⟩ := Cond.arrayOver_spec (ht _ waoText)
  obtain ⟨a3c, a3, a3k, a31, -, a32, a33, a34⟩ := Cond.arrayOver_spec (ht _ waoTool)
  refine ⟨(fun k => [c0, c1, c2, c3, c4, c5, c6, c7, c8].getD k c0, fun k => [i0, i1, i2, i3, i4, i5, i6, i7, i8].getD k i0), fun k => [a0, a1, a2, a3].getD k a0, ⟨?_, ?_⟩, ?_, ?_, ?_⟩
  · intro k q hq
    match k, hq with
    | 0, hq => cases hq; exact k0
    | 1, hq => cases hq; exact k1
    | 2, hq => cases hq; exact k2
    | 3, hq => cases hq; exact k3
    | 4, hq => cases hq; exact k4
    | 5, hq => cases hq; exact k5
    | 6, hq => cases hq; exact k6
    | 7, hq => cases hq; exact k7
    | 8, hq => cases hq; exact k8
    | k + 9, hq => simp [vwCl] at hq
  · intro k q hq
    match k, hq with
    | 0, hq => cases hq; exact ⟨fun n z => ⟨fun k h => (by cases h), a0k, a02, a0c, a03⟩, a01⟩
    | 1, hq => cases hq; exact ⟨fun n z => ⟨fun k h => (by cases h), a1k, a12, a1c, a13⟩, a11⟩
    | 2, hq => cases hq; exact ⟨fun n z => ⟨fun k h => (by cases h), a2k, a22, a2c, a23⟩, a2k, a2c, a22, a23, a21, a24⟩
    | 3, hq => cases hq; exact ⟨fun n z => ⟨fun k h => (by cases h), a3k, a32, a3c, a33⟩, a3k, a3c, a32, a33, a31, a34⟩
    | k + 4, hq => simp [tyk] at hq
  · exact fun w hw => va_Nw.of (nw_sub w hw).2 (ht w (nw_sub w hw).1)
  · exact va_AO.of (ht _ waoText)
  · exact va_AO.of (ht _ waoTool)
theorem lw_pop {v : Value} (C : lw_At p s m meth c b0 N xs) (n : Nat) (d : decode code pc = .ok (.pop, 1)) (hv : v.category = 1) (hn : pc + 1 = n) (k : Lw p l e s m below meth c b0 D kA n V S h) : Lw p l e s m below meth c b0 D kA pc V (v :: S) h := by
  subst hn
  exact fun H locs ls hR hS hl => lv_pop C.1 C.2.1 d hv (k H locs ls hR hS hl)
theorem lw_pop2 {v : Value} (C : lw_At p s m meth c b0 N xs) (n : Nat) (d : decode code pc = .ok (.pop2, 1)) (hv : v.category = 2) (hn : pc + 1 = n) (k : Lw p l e s m below meth c b0 D kA n V S h) : Lw p l e s m below meth c b0 D kA pc V (v :: S) h := by
  subst hn
  exact fun H locs ls hR hS hl => lv_pop2_2 C.1 C.2.1 d hv (k H locs ls hR hS hl)
set_option maxRecDepth 50000 in
theorem law_KS (C : lw_At p s m meth c b0 N xs) : KS s.heap.size s := by
  have hs := flat_of_before _ C.2.2.2.2.2.2.2.2.2
  have ht := C.2.2.2.2.2.1
  have hA : ∀ a : Nat, a < s.heap.size → ¬ (fun q => s.heap.size ≤ q) a := fun a ha => Nat.not_le.mpr ha
  obtain ⟨adK, adV, h1, h2⟩ := vk_Sof (args := #[Value.ref b0]) (s := s) (N := 1) (tm := fun _ => Term.string "LadderForge$NamedMaker" 103) (len := [85]) (byt := [jsB]) (A := fun q => s.heap.size ≤ q)
    (fun i hi => by obtain rfl : i = 0 := by omega
                    decide)
    (fun i hi => hs _ (by decide +kernel)) (fun i hi => hs _ (by decide +kernel)) (fun i hi => hs _ (by decide +kernel))
    (fun i hi => by obtain rfl : i = 0 := by omega
                    exact hs _ (by decide +kernel))
    (fun i hi j hj => by
      obtain rfl : i = 0 := by omega
      have hm : ∀ j : Nat, j < 85 → (Cond.eq (.elem (.field (Term.string "LadderForge$NamedMaker" 103) "java/lang/String" "value" "[B") (.int (Int32.ofNat j))) (.int (jsB.getD j 0))) ∈ flatC (Jvm.Cond.and given_1 narrow_1) := by decide +kernel
      exact hs _ (hm j hj))
    (fun i j hi hj hij => by omega) hA
  refine ⟨adK, adV, h1, vk_R.of (A := #[Value.ref b0]) (ht _ (List.mem_append_right _ (List.mem_append_right _ (List.mem_append_left _ (List.mem_of_getElem? (i := 71) rfl))))) (h2 0 (by decide)), ?_, ?_⟩
  · exact va_Zof (args := #[Value.ref b0]) (ht _ (List.mem_append_right _ (List.mem_append_right _ (List.mem_append_left _ (List.mem_of_getElem? (i := 81) rfl))))) (ht _ (List.mem_append_right _ (List.mem_append_left _ (List.mem_of_getElem? (i := 11) rfl)))) (va_eqi (hs _ (by decide +kernel))) hA
  · exact va_Zqof (args := #[Value.ref b0]) (ht _ (List.mem_append_right _ (List.mem_append_right _ (List.mem_append_left _ (List.mem_of_getElem? (i := 97) rfl))))) (ht _ (List.mem_append_right _ (List.mem_append_left _ (List.mem_of_getElem? (i := 13) rfl)))) (hs _ (by decide +kernel)) hA
end LAW
