theorem idiv_Z {a : Int} (h0 : 0 ≤ a) (h1 : a ≤ 3000) : iZ a / iZ 3 = iZ (a / 3) := by
  have k : ∀ (x : Fin 60) (y : Fin 51), iZ ((51 * x.val + y.val : Nat) : Int) / iZ 3 = iZ (((51 * x.val + y.val : Nat) : Int) / 3) := by decide +kernel
  have q := k ⟨a.toNat / 51, by omega⟩ ⟨a.toNat % 51, by omega⟩
  have e : ((51 * (a.toNat / 51) + a.toNat % 51 : Nat) : Int) = a := by omega
  change iZ ((51 * (a.toNat / 51) + a.toNat % 51 : Nat) : Int) / iZ 3 = iZ (((51 * (a.toNat / 51) + a.toNat % 51 : Nat) : Int) / 3) at q
  rwa [e] at q
theorem irem_Z {a : Int} (h0 : 0 ≤ a) (h1 : a ≤ 3000) : iZ a - iZ a / iZ 251 * iZ 251 = iZ (a % 251) := by
  have k : ∀ (x : Fin 60) (y : Fin 51), iZ ((51 * x.val + y.val : Nat) : Int) - iZ ((51 * x.val + y.val : Nat) : Int) / iZ 251 * iZ 251 = iZ (((51 * x.val + y.val : Nat) : Int) % 251) := by decide +kernel
  have q := k ⟨a.toNat / 51, by omega⟩ ⟨a.toNat % 51, by omega⟩
  have e : ((51 * (a.toNat / 51) + a.toNat % 51 : Nat) : Int) = a := by omega
  change iZ ((51 * (a.toNat / 51) + a.toNat % 51 : Nat) : Int) - iZ ((51 * (a.toNat / 51) + a.toNat % 51 : Nat) : Int) / iZ 251 * iZ 251 = iZ (((51 * (a.toNat / 51) + a.toNat % 51 : Nat) : Int) % 251) at q
  rwa [e] at q
def qF (d t a x p c : Int) : Nat → Int
  | 0 => d
  | 1 => t
  | 2 => a
  | 3 => x
  | 4 => p
  | _ => c
theorem ru_mk {R : Int × MS} {hm a x p e d t c : Int} {m ou ol : Nat → Int} (h : rnR R hm a x p e d t c m ou ol) : qF d t a x p c 0 = R.2.2.2.2.2.1 ∧ qF d t a x p c 1 = R.2.2.2.2.2.2.1 ∧ qF d t a x p c 2 = R.2.1 ∧ qF d t a x p c 3 = R.2.2.1 ∧ qF d t a x p c 4 = R.2.2.2.1 ∧ qF d t a x p c 5 = R.2.2.2.2.2.2.2.1 ∧ agr 256 m R.2.2.2.2.2.2.2.2.1 ∧ agr (qF d t a x p c 5) ou R.2.2.2.2.2.2.2.2.2.1 := by
  obtain ⟨-, h1, h2, h3, -, h5, h6, h7, h8, h9, -⟩ := h
  exact ⟨h5.symm, h6.symm, h1.symm, h2.symm, h3.symm, h7.symm, fun j _ => by rw [h8], fun j hj => (h9 j hj).symm⟩
theorem prR.n {R : PR} {r n : Int} {f g : Nat → Int} (h : prR R r n f g) : nrR R r n f g := ⟨h.1, fun _ => h.2⟩
section MT
variable {R : PR} {tc tc1 : Nat} {V Bf Lf V1 Bf1 Lf1 : Nat → Nat → Int} {hw i r r0 n : Int} {f g : Nat → Int}
theorem mtP_k (hi : 0 ≤ i ∧ i ≤ 7) (e : nrR R r0 n f g) (h9 : r0 = -9) (kp : kpP tc V Bf Lf n f g hw i (-9) r tc1 V1 Bf1 Lf1) : mtP R tc V Bf Lf hw i r tc1 V1 Bf1 Lf1 := by
  obtain ⟨e1, e2, e3, e4⟩ := And.intro e.1 (e.2 h9)
  exact ⟨fun _ => ⟨fun _ => kp.cg e2 e3 e4, fun q => absurd (e1.trans h9) q⟩, fun q => absurd hi q⟩
theorem mtP_f (hi : 0 ≤ i ∧ i ≤ 7) (e : nrR R r0 n f g) (h9 : r0 ≠ -9) (hr : r = -10 - r0) : mtP R tc V Bf Lf hw i r tc V Bf Lf := by
  obtain ⟨e1, -⟩ := e
  subst e1
  exact ⟨fun _ => ⟨fun q => absurd q h9, fun _ => ⟨hr, rfl, TR.refl _ _ _ _⟩⟩, fun q => absurd hi q⟩
theorem mtP_n (hi : ¬ (0 ≤ i ∧ i ≤ 7)) : mtP R tc V Bf Lf hw i (-1) tc V Bf Lf := ⟨fun q => absurd q hi, fun _ => ⟨rfl, rfl, TR.refl _ _ _ _⟩⟩
end MT
section BD
variable {R : Int × MS} {tc tc1 : Nat} {V Bf Lf V1 Bf1 Lf1 : Nat → Nat → Int} {t i r hm a x p e d t1 c : Int} {m ou ol : Nat → Int}
theorem bdP_k (hv : 0 ≤ t ∧ t < tc ∧ 0 ≤ i ∧ i ≤ 7) (ok : bldOk R) (h : rnR R hm a x p e d t1 c m ou ol) (kp : kpP tc V Bf Lf c ou ol 2 i t r tc1 V1 Bf1 Lf1) : bdP R tc V Bf Lf t i r tc1 V1 Bf1 Lf1 := by
  obtain ⟨-, -, -, -, -, -, -, h7, -, h9, h10⟩ := h
  exact ⟨fun _ => ⟨fun _ => kp.cg h7 (fun j hj => (h9 j hj).symm) (fun j hj => (h10 j hj).symm), fun q => absurd ok q⟩, fun q => absurd hv q⟩
theorem bdP_s (hv : 0 ≤ t ∧ t < tc ∧ 0 ≤ i ∧ i ≤ 7) (ok : ¬ bldOk R) : bdP R tc V Bf Lf t i (-2) tc V Bf Lf := ⟨fun _ => ⟨fun q => absurd q ok, fun _ => ⟨rfl, rfl, TR.refl _ _ _ _⟩⟩, fun q => absurd hv q⟩
theorem bdP_n (hv : ¬ (0 ≤ t ∧ t < tc ∧ 0 ≤ i ∧ i ≤ 7)) : bdP R tc V Bf Lf t i (-1) tc V Bf Lf := ⟨fun q => absurd q hv, fun _ => ⟨rfl, rfl, TR.refl _ _ _ _⟩⟩
theorem ckP_y {y : Int} (hv : 0 ≤ t ∧ t < tc ∧ 0 ≤ x ∧ x ≤ 1) (hw : V 1 t.toNat = 0) (hr : r = V 4 t.toNat) (e : y = x) : ckP tc V Bf Lf t x r (va_up V 4 (va_up (V 4) t.toNat y)) Bf Lf := by
  subst e
  refine ⟨fun _ => ⟨fun _ => ⟨hr, ?_, fun j hj => ⟨⟨rfl, rfl, rfl, rfl, fun z => ?_⟩, fun _ _ => rfl, fun _ _ => rfl⟩⟩, fun q => absurd hw q⟩, fun q => absurd hv q⟩
  · show va_up (V 4) t.toNat y t.toNat = y
    exact up_eq
  · show va_up (V 4) t.toNat y j = V 4 j
    exact up_ne z
theorem ckP_s (hv : 0 ≤ t ∧ t < tc ∧ 0 ≤ x ∧ x ≤ 1) (hw : V 1 t.toNat ≠ 0) : ckP tc V Bf Lf t x (-2) V Bf Lf := ⟨fun _ => ⟨fun q => absurd q hw, fun _ => ⟨rfl, TR.refl _ _ _ _⟩⟩, fun q => absurd hv q⟩
theorem ckP_n (hv : ¬ (0 ≤ t ∧ t < tc ∧ 0 ≤ x ∧ x ≤ 1)) : ckP tc V Bf Lf t x (-1) V Bf Lf := ⟨fun q => absurd q hv, fun _ => ⟨rfl, TR.refl _ _ _ _⟩⟩
end BD
/-- what weight adds to trace -/
def wtT (x : Int) : Int64 := if x = 0 then 1 else if x = 1 then 11 else if x = 2 then 101 else if x = 3 then 1101 else if x = 4 then 11101 else 100001
theorem wt_0 {x : Int} (tr : Int64) (h : x = 0) : tr + 1 = tr + wtT x := by
  subst h
  rfl
theorem wt_1 {x : Int} (tr : Int64) (h : x = 1) : tr + 10 + 1 = tr + wtT x := by
  subst h
  rw [Int64.add_assoc]
  rfl
theorem wt_2 {x : Int} (tr : Int64) (h : x = 2) : tr + 100 + 1 = tr + wtT x := by
  subst h
  rw [Int64.add_assoc]
  rfl
theorem wt_3 {x : Int} (tr : Int64) (h : x = 3) : tr + 1000 + 100 + 1 = tr + wtT x := by
  subst h
  rw [Int64.add_assoc, Int64.add_assoc]
  rfl
theorem wt_4 {x : Int} (tr : Int64) (h : x = 4) : tr + 10000 + 1000 + 100 + 1 = tr + wtT x := by
  subst h
  rw [Int64.add_assoc, Int64.add_assoc, Int64.add_assoc]
  rfl
theorem wt_5 {x : Int} (tr : Int64) (h : x = 5) : tr + 100000 + 1 = tr + wtT x := by
  subst h
  rw [Int64.add_assoc]
  rfl
def wtP (tc : Int) (tr : Int64) (x t : Int) (tr1 : Int64) : Prop := (0 ≤ t ∧ t < tc ∧ 0 ≤ x ∧ x ≤ 5 → tr1 = tr + wtT x) ∧ (¬ (0 ≤ t ∧ t < tc ∧ 0 ≤ x ∧ x ≤ 5) → tr1 = tr)
/-- weight: n the length, b the bytes that are no orders, c checked, k the chain's length -/
def wgP (tc : Int) (V Bf : Nat → Nat → Int) (x t r : Int) : Prop := (0 ≤ t ∧ t < tc → (x = 0 → r = V 0 t.toNat) ∧ (x = 1 → r = V 0 t.toNat + 9 * V 4 t.toNat) ∧ (x = 2 → r = V 0 t.toNat + 2 * bey (Bf t.toNat) (V 0 t.toNat).toNat) ∧ (x = 3 → ∃ k : Int, isLen (V 3) t k ∧ r = V 0 t.toNat + 2 * bey (Bf t.toNat) (V 0 t.toNat).toNat + k) ∧ (x = 4 → ∃ k : Int, isLen (V 3) t k ∧ r = 3 * (V 0 t.toNat + 2 * bey (Bf t.toNat) (V 0 t.toNat).toNat + k) % 251) ∧ (x = 5 → r = V 0 t.toNat / 3)) ∧ (¬ (0 ≤ t ∧ t < tc ∧ 0 ≤ x ∧ x ≤ 5) → r = -1)
theorem CORE2.c0 {h h1 : MH} {tc : Nat} {tr tr1 : Int64} {xn : Nat → Int} {xf V Bf Lf : Nat → Nat → Int} (H : CORE2 h tc tr xn xf V Bf Lf) (s : Sm [0] h h1) (f : h1[0]? = some (.inr (7, [.ref 1, .ref 3, .ref 4, .int (iZ (tc : Int)), .ref 5, .ref 9, .ref 15, .ref 20, .ref 25, .ref 30, .long tr1]))) : CORE2 h1 tc tr1 xn xf V Bf Lf := by
  have z : ∀ q, q ∈ [0] → q = 0 := by simp
  obtain ⟨f0, f3, f4, h5, hT, hL⟩ := H
  exact ⟨f, s.get (by simp) f3, s.get (by simp) f4, h5, fun j hj => (hT j hj).kq (fun q _ _ => smk s (fun y => by have := z q y; omega)), fun j hj => (hL j hj).kp (fun q _ _ => smk s (fun y => by have := z q y; omega))⟩
set_option maxRecDepth 100000 in
theorem b8_tool {l : Launch} {h : MH} {Q : Option Value → MH → Prop} {tn : Int} {tf : Nat → Int} {xn : Nat → Int} {xf : Nat → Nat → Int} {en : Int} {tc : Nat} {tr : Int64} {V Bf Lf : Nat → Nat → Int} {q lm lo : Nat → Int} {i w : Int} (H : IX2 h tn tf xn xf en tc tr V Bf Lf q lm lo) (ri : rg i) (rw : rg w) (k : ∀ r : Int, (tlP tc V i w r) → Q (some (.int (iZ r))) h) : Go l mX8_tool 0 [some (.ref 0), some (.int (iZ i)), some (.int (iZ w)), none] [] h Q := by
  obtain ⟨HC, HS, HLm, HY, HE, hlen, hmz⟩ := id H
  obtain ⟨F0, F3, F4, htc, HT, HL⟩ := id HC
  refine g_aload_n 1 dX8_tool_0 rfl rfl ?_
  refine g_iload_n 2 dX8_tool_1 rfl rfl ?_
  refine g_callV (z := mX8_toolAt) (As := [.int (iZ i)]) 5 dX8_tool_2 mwX8_toolAt ⟨by decide, by decide⟩ rfl wlX8_90 wiX8_toolAt wsX8_toolAt F0 rfl rfl rfl (nle rfl) (nle rfl) rfl ?_
  refine Go.to [some (.ref 0), some (.int (iZ i))] [] rfl rfl ?_
  refine g_iload_n 1 dX8_toolAt_0 rfl rfl ?_
  refine g_ifZ_lt 18 4 dX8_toolAt_1 rfl rfl ri (fun c1 => ?_) (fun c1 => ?_)
  · refine g_null 19 dX8_toolAt_18 rfl ?_
    refine g_goto 28 dX8_toolAt_19 rfl ?_
    refine g_aret rfl (Or.inl rfl) dX8_toolAt_28 ?_
    refine rN ?_
    refine g_astore_nN (L1 := [some (.ref 0), some (.int (iZ i)), some (.int (iZ w)), some (.null)]) 6 dX8_tool_5 (by decide) rfl rfl rfl ?_
    refine g_aload_nN 7 dX8_tool_6 rfl rfl ?_
    refine g_ifnonnullN 10 dX8_tool_7 rfl ?_
    refine g_iconst (v := iZ (-1)) 11 dX8_tool_10 rfl rfl ?_
    refine g_iret rfl dX8_tool_11 ?_
    exact k (-1) (by unfold tlP; omega)
  · refine g_iload_n 5 dX8_toolAt_4 rfl rfl ?_
    refine g_aload_n 6 dX8_toolAt_5 rfl rfl ?_
    refine g_get 9 dX8_toolAt_6 faX8_26_X8 F0 rfl rfl ?_
    refine g_icZ_ge 18 12 dX8_toolAt_9 rfl rfl ri (by omega) (fun c2 => ?_) (fun c2 => ?_)
    · refine g_null 19 dX8_toolAt_18 rfl ?_
      refine g_goto 28 dX8_toolAt_19 rfl ?_
      refine g_aret rfl (Or.inl rfl) dX8_toolAt_28 ?_
      refine rN ?_
      refine g_astore_nN (L1 := [some (.ref 0), some (.int (iZ i)), some (.int (iZ w)), some (.null)]) 6 dX8_tool_5 (by decide) rfl rfl rfl ?_
      refine g_aload_nN 7 dX8_tool_6 rfl rfl ?_
      refine g_ifnonnullN 10 dX8_tool_7 rfl ?_
      refine g_iconst (v := iZ (-1)) 11 dX8_tool_10 rfl rfl ?_
      refine g_iret rfl dX8_tool_11 ?_
      exact k (-1) (by unfold tlP; omega)
    · refine g_iload_n 13 dX8_toolAt_12 rfl rfl ?_
      refine g_bipush (v := iZ (12)) 15 dX8_toolAt_13 (by decide +kernel) rfl ?_
      refine g_icZ_lt 22 18 dX8_toolAt_15 rfl rfl ri (by decide) (fun c3 => ?_) (fun c3 => ?_)
      · refine g_aload_n 23 dX8_toolAt_22 rfl rfl ?_
        refine g_get 26 dX8_toolAt_23 faX8_22_X8 F0 rfl rfl ?_
        refine g_iload_n 27 dX8_toolAt_26 rfl rfl ?_
        refine g_aaldZ 28 dX8_toolAt_27 F4 (by decide) (by omega) (by omega) (by decide) (tls_at (by omega) (by omega)) rfl ?_
        refine g_aret rfl (Or.inr ⟨_, rfl⟩) dX8_toolAt_28 ?_
        refine rR ?_
        refine g_astore_n (L1 := [some (.ref 0), some (.int (iZ i)), some (.int (iZ w)), some (.ref (71 + 4 * i.toNat))]) 6 dX8_tool_5 (by decide) rfl rfl rfl ?_
        refine g_aload_n 7 dX8_tool_6 rfl rfl ?_
        refine g_ifnonnull 12 dX8_tool_7 rfl ?_
        refine g_iload_n 13 dX8_tool_12 rfl rfl ?_
        by_cases c4 : w < 0 ∨ 4 < w
        · refine g_tabZO 84 dX8_tool_13 rw c4 rfl ?_
          refine g_iconst (v := iZ (-1)) 85 dX8_tool_84 rfl rfl ?_
          refine g_iret rfl dX8_tool_85 ?_
          exact k (-1) (by unfold tlP; omega)
        · have c5 : w = 0 ∨ w = 1 ∨ w = 2 ∨ w = 3 ∨ w = 4 := by omega
          rcases c5 with c5 | c5 | c5 | c5 | c5
          · refine g_tabZI (0) 48 dX8_tool_13 rw c5 (by decide) (by decide) rfl rfl ?_
            refine g_aload_n 49 dX8_tool_48 rfl rfl ?_
            obtain ⟨ta1_6, ta2_6, ta3_6, ta4_6, ta5_6, ta6_6, ta7_6, ta8_6, ta9_6, tb0_6, tb1_6, tb2_6, tb3_6⟩ := HL (i.toNat) (by omega)
            refine g_get 52 dX8_tool_49 faX8_94_X7 tb0_6 rfl rfl ?_
            refine g_get 55 dX8_tool_52 faX8_109_X0 tb1_6 rfl rfl ?_
            refine g_iret rfl dX8_tool_55 ?_
            exact k (V 0 i.toNat) (by unfold tlP; omega)
          · refine g_tabZI (1) 56 dX8_tool_13 rw c5 (by decide) (by decide) rfl rfl ?_
            refine g_aload_n 57 dX8_tool_56 rfl rfl ?_
            obtain ⟨ta1_7, ta2_7, ta3_7, ta4_7, ta5_7, ta6_7, ta7_7, ta8_7, ta9_7, tb0_7, tb1_7, tb2_7, tb3_7⟩ := HL (i.toNat) (by omega)
            refine g_get 60 dX8_tool_57 faX8_112_X7 tb0_7 rfl rfl ?_
            refine g_iret rfl dX8_tool_60 ?_
            exact k (V 1 i.toNat) (by unfold tlP; omega)
          · refine g_tabZI (2) 61 dX8_tool_13 rw c5 (by decide) (by decide) rfl rfl ?_
            refine g_aload_n 62 dX8_tool_61 rfl rfl ?_
            obtain ⟨ta1_8, ta2_8, ta3_8, ta4_8, ta5_8, ta6_8, ta7_8, ta8_8, ta9_8, tb0_8, tb1_8, tb2_8, tb3_8⟩ := HL (i.toNat) (by omega)
            refine g_get 65 dX8_tool_62 faX8_115_X7 tb0_8 rfl rfl ?_
            refine g_iret rfl dX8_tool_65 ?_
            exact k (V 2 i.toNat) (by unfold tlP; omega)
          · refine g_tabZI (3) 66 dX8_tool_13 rw c5 (by decide) (by decide) rfl rfl ?_
            refine g_aload_n 67 dX8_tool_66 rfl rfl ?_
            obtain ⟨ta1_9, ta2_9, ta3_9, ta4_9, ta5_9, ta6_9, ta7_9, ta8_9, ta9_9, tb0_9, tb1_9, tb2_9, tb3_9⟩ := HL (i.toNat) (by omega)
            refine g_get 70 dX8_tool_67 faX8_118_X7 tb0_9 rfl rfl ?_
            refine g_iret rfl dX8_tool_70 ?_
            exact k (V 3 i.toNat) (by unfold tlP; omega)
          · refine g_tabZI (4) 71 dX8_tool_13 rw c5 (by decide) (by decide) rfl rfl ?_
            refine g_aload_n 72 dX8_tool_71 rfl rfl ?_
            obtain ⟨ta1_10, ta2_10, ta3_10, ta4_10, ta5_10, ta6_10, ta7_10, ta8_10, ta9_10, tb0_10, tb1_10, tb2_10, tb3_10⟩ := HL (i.toNat) (by omega)
            refine g_get 75 dX8_tool_72 faX8_121_X7 tb0_10 rfl rfl ?_
            refine g_ifZ_eq 82 78 dX8_tool_75 rfl rfl (rg01 ta7_10) (fun c11 => ?_) (fun c11 => ?_)
            · refine g_iconst (v := iZ (0)) 83 dX8_tool_82 rfl rfl ?_
              refine g_iret rfl dX8_tool_83 ?_
              exact k (0) (by unfold tlP; omega)
            · refine g_iconst (v := iZ (1)) 79 dX8_tool_78 rfl rfl ?_
              refine g_goto 83 dX8_tool_79 rfl ?_
              refine g_iret rfl dX8_tool_83 ?_
              exact k (1) (by unfold tlP; omega)
      · refine g_null 19 dX8_toolAt_18 rfl ?_
        refine g_goto 28 dX8_toolAt_19 rfl ?_
        refine g_aret rfl (Or.inl rfl) dX8_toolAt_28 ?_
        refine rN ?_
        refine g_astore_nN (L1 := [some (.ref 0), some (.int (iZ i)), some (.int (iZ w)), some (.null)]) 6 dX8_tool_5 (by decide) rfl rfl rfl ?_
        refine g_aload_nN 7 dX8_tool_6 rfl rfl ?_
        refine g_ifnonnullN 10 dX8_tool_7 rfl ?_
        refine g_iconst (v := iZ (-1)) 11 dX8_tool_10 rfl rfl ?_
        refine g_iret rfl dX8_tool_11 ?_
        exact k (-1) (by unfold tlP; omega)
set_option maxRecDepth 100000 in
theorem b8_code {l : Launch} {h : MH} {Q : Option Value → MH → Prop} {tn : Int} {tf : Nat → Int} {xn : Nat → Int} {xf : Nat → Nat → Int} {en : Int} {tc : Nat} {tr : Int64} {V Bf Lf : Nat → Nat → Int} {q lm lo : Nat → Int} {i a w : Int} (H : IX2 h tn tf xn xf en tc tr V Bf Lf q lm lo) (ri : rg i) (ra : rg a) (rw : rg w) (k : ∀ r : Int, (cdP tc V Bf Lf i a w r) → Q (some (.int (iZ r))) h) : Go l mX8_code 0 [some (.ref 0), some (.int (iZ i)), some (.int (iZ a)), some (.int (iZ w)), none] [] h Q := by
  obtain ⟨HC, HS, HLm, HY, HE, hlen, hmz⟩ := id H
  obtain ⟨F0, F3, F4, htc, HT, HL⟩ := id HC
  refine g_aload_n 1 dX8_code_0 rfl rfl ?_
  refine g_iload_n 2 dX8_code_1 rfl rfl ?_
  refine g_callV (z := mX8_toolAt) (As := [.int (iZ i)]) 5 dX8_code_2 mwX8_toolAt ⟨by decide, by decide⟩ rfl wlX8_90 wiX8_toolAt wsX8_toolAt F0 rfl rfl rfl (nle rfl) (nle rfl) rfl ?_
  refine Go.to [some (.ref 0), some (.int (iZ i))] [] rfl rfl ?_
  refine g_iload_n 1 dX8_toolAt_0 rfl rfl ?_
  refine g_ifZ_lt 18 4 dX8_toolAt_1 rfl rfl ri (fun c1 => ?_) (fun c1 => ?_)
  · refine g_null 19 dX8_toolAt_18 rfl ?_
    refine g_goto 28 dX8_toolAt_19 rfl ?_
    refine g_aret rfl (Or.inl rfl) dX8_toolAt_28 ?_
    refine rN ?_
    refine g_astoreN (L1 := [some (.ref 0), some (.int (iZ i)), some (.int (iZ a)), some (.int (iZ w)), some (.null)]) 7 dX8_code_5 (by decide) rfl rfl rfl ?_
    refine g_aloadN 9 dX8_code_7 rfl rfl ?_
    refine g_ifnullN 21 dX8_code_9 rfl ?_
    refine g_iconst (v := iZ (-1)) 22 dX8_code_21 rfl rfl ?_
    refine g_iret rfl dX8_code_22 ?_
    exact k (-1) (by unfold cdP; omega)
  · refine g_iload_n 5 dX8_toolAt_4 rfl rfl ?_
    refine g_aload_n 6 dX8_toolAt_5 rfl rfl ?_
    refine g_get 9 dX8_toolAt_6 faX8_26_X8 F0 rfl rfl ?_
    refine g_icZ_ge 18 12 dX8_toolAt_9 rfl rfl ri (by omega) (fun c2 => ?_) (fun c2 => ?_)
    · refine g_null 19 dX8_toolAt_18 rfl ?_
      refine g_goto 28 dX8_toolAt_19 rfl ?_
      refine g_aret rfl (Or.inl rfl) dX8_toolAt_28 ?_
      refine rN ?_
      refine g_astoreN (L1 := [some (.ref 0), some (.int (iZ i)), some (.int (iZ a)), some (.int (iZ w)), some (.null)]) 7 dX8_code_5 (by decide) rfl rfl rfl ?_
      refine g_aloadN 9 dX8_code_7 rfl rfl ?_
      refine g_ifnullN 21 dX8_code_9 rfl ?_
      refine g_iconst (v := iZ (-1)) 22 dX8_code_21 rfl rfl ?_
      refine g_iret rfl dX8_code_22 ?_
      exact k (-1) (by unfold cdP; omega)
    · refine g_iload_n 13 dX8_toolAt_12 rfl rfl ?_
      refine g_bipush (v := iZ (12)) 15 dX8_toolAt_13 (by decide +kernel) rfl ?_
      refine g_icZ_lt 22 18 dX8_toolAt_15 rfl rfl ri (by decide) (fun c3 => ?_) (fun c3 => ?_)
      · refine g_aload_n 23 dX8_toolAt_22 rfl rfl ?_
        refine g_get 26 dX8_toolAt_23 faX8_22_X8 F0 rfl rfl ?_
        refine g_iload_n 27 dX8_toolAt_26 rfl rfl ?_
        refine g_aaldZ 28 dX8_toolAt_27 F4 (by decide) (by omega) (by omega) (by decide) (tls_at (by omega) (by omega)) rfl ?_
        refine g_aret rfl (Or.inr ⟨_, rfl⟩) dX8_toolAt_28 ?_
        refine rR ?_
        refine g_astore (L1 := [some (.ref 0), some (.int (iZ i)), some (.int (iZ a)), some (.int (iZ w)), some (.ref (71 + 4 * i.toNat))]) 7 dX8_code_5 (by decide) rfl rfl rfl ?_
        refine g_aload 9 dX8_code_7 rfl rfl ?_
        refine g_ifnull 12 dX8_code_9 rfl ?_
        refine g_iload_n 13 dX8_code_12 rfl rfl ?_
        refine g_ifZ_lt 21 16 dX8_code_13 rfl rfl rw (fun c4 => ?_) (fun c4 => ?_)
        · refine g_iconst (v := iZ (-1)) 22 dX8_code_21 rfl rfl ?_
          refine g_iret rfl dX8_code_22 ?_
          exact k (-1) (by unfold cdP; omega)
        · refine g_iload_n 17 dX8_code_16 rfl rfl ?_
          refine g_iconst (v := iZ (1)) 18 dX8_code_17 rfl rfl ?_
          refine g_icZ_le 23 21 dX8_code_18 rfl rfl rw (by decide) (fun c5 => ?_) (fun c5 => ?_)
          · refine g_iload_n 24 dX8_code_23 rfl rfl ?_
            refine g_ifZ_ne 39 27 dX8_code_24 rfl rfl rw (fun c6 => ?_) (fun c6 => ?_)
            · refine g_aload 41 dX8_code_39 rfl rfl ?_
              obtain ⟨ta1_7, ta2_7, ta3_7, ta4_7, ta5_7, ta6_7, ta7_7, ta8_7, ta9_7, tb0_7, tb1_7, tb2_7, tb3_7⟩ := HL (i.toNat) (by omega)
              refine g_get 44 dX8_code_41 faX8_94_X7 tb0_7 rfl rfl ?_
              refine g_iload_n 45 dX8_code_44 rfl rfl ?_
              refine g_callV (z := mX0_ledAt) (As := [.int (iZ a)]) 48 dX8_code_45 mwX0_ledAt ⟨by decide, by decide⟩ rfl wlX8_126 wiX0_ledAt wsX0_ledAt tb1_7 rfl rfl rfl (nle rfl) (nle rfl) rfl ?_
              refine Go.to [some (.ref (71 + 4 * i.toNat + 1)), some (.int (iZ a))] [] rfl rfl ?_
              refine g_iload_n 1 dX0_ledAt_0 rfl rfl ?_
              refine g_ifZ_lt 20 4 dX0_ledAt_1 rfl rfl ra (fun c8 => ?_) (fun c8 => ?_)
              · refine g_iconst (v := iZ (-1)) 21 dX0_ledAt_20 rfl rfl ?_
                refine g_goto 30 dX0_ledAt_21 rfl ?_
                refine g_iret rfl dX0_ledAt_30 ?_
                refine rI ?_
                refine g_iret rfl dX8_code_48 ?_
                exact k (-1) (by unfold cdP; omega)
              · refine g_iload_n 5 dX0_ledAt_4 rfl rfl ?_
                refine g_aload_n 6 dX0_ledAt_5 rfl rfl ?_
                refine g_get 9 dX0_ledAt_6 faX0_9_X0 tb1_7 rfl rfl ?_
                refine g_icZ_ge 20 12 dX0_ledAt_9 rfl rfl ra (by omega) (fun c9 => ?_) (fun c9 => ?_)
                · refine g_iconst (v := iZ (-1)) 21 dX0_ledAt_20 rfl rfl ?_
                  refine g_goto 30 dX0_ledAt_21 rfl ?_
                  refine g_iret rfl dX0_ledAt_30 ?_
                  refine rI ?_
                  refine g_iret rfl dX8_code_48 ?_
                  exact k (-1) (by unfold cdP; omega)
                · refine g_iload_n 13 dX0_ledAt_12 rfl rfl ?_
                  refine g_aload_n 14 dX0_ledAt_13 rfl rfl ?_
                  refine g_get 17 dX0_ledAt_14 faX0_21_X0 tb1_7 rfl rfl ?_
                  refine g_icZ_lt 24 20 dX0_ledAt_17 rfl rfl ra (by omega) (fun c10 => ?_) (fun c10 => ?_)
                  · refine g_aload_n 25 dX0_ledAt_24 rfl rfl ?_
                    refine g_get 28 dX0_ledAt_25 faX0_28_X0 tb1_7 rfl rfl ?_
                    refine g_iload_n 29 dX0_ledAt_28 rfl rfl ?_
                    have b11 := ta9_7 ((a).toNat)
                    refine g_ialdZ (v := iZ (((Lf i.toNat)) a.toNat)) 30 dX0_ledAt_29 tb3_7 (by omega) (by omega) (by omega) rfl rfl ?_
                    refine g_iret rfl dX0_ledAt_30 ?_
                    refine rI ?_
                    refine g_iret rfl dX8_code_48 ?_
                    exact k (((Lf i.toNat)) a.toNat) (by unfold cdP; omega)
                  · refine g_iconst (v := iZ (-1)) 21 dX0_ledAt_20 rfl rfl ?_
                    refine g_goto 30 dX0_ledAt_21 rfl ?_
                    refine g_iret rfl dX0_ledAt_30 ?_
                    refine rI ?_
                    refine g_iret rfl dX8_code_48 ?_
                    exact k (-1) (by unfold cdP; omega)
            · refine g_aload 29 dX8_code_27 rfl rfl ?_
              obtain ⟨ta1_12, ta2_12, ta3_12, ta4_12, ta5_12, ta6_12, ta7_12, ta8_12, ta9_12, tb0_12, tb1_12, tb2_12, tb3_12⟩ := HL (i.toNat) (by omega)
              refine g_get 32 dX8_code_29 faX8_94_X7 tb0_12 rfl rfl ?_
              refine g_iload_n 33 dX8_code_32 rfl rfl ?_
              refine g_callV (z := mX0_at) (As := [.int (iZ a)]) 36 dX8_code_33 mwX0_at ⟨by decide, by decide⟩ rfl wlX8_125 wiX0_at wsX0_at tb1_12 rfl rfl rfl (nle rfl) (nle rfl) rfl ?_
              refine Go.to [some (.ref (71 + 4 * i.toNat + 1)), some (.int (iZ a))] [] rfl rfl ?_
              refine g_iload_n 1 dX0_at_0 rfl rfl ?_
              refine g_ifZ_lt 20 4 dX0_at_1 rfl rfl ra (fun c13 => ?_) (fun c13 => ?_)
              · refine g_iconst (v := iZ (-1)) 21 dX0_at_20 rfl rfl ?_
                refine g_goto 30 dX0_at_21 rfl ?_
                refine g_iret rfl dX0_at_30 ?_
                refine rI ?_
                refine g_goto 48 dX8_code_36 rfl ?_
                refine g_iret rfl dX8_code_48 ?_
                exact k (-1) (by unfold cdP; omega)
              · refine g_iload_n 5 dX0_at_4 rfl rfl ?_
                refine g_aload_n 6 dX0_at_5 rfl rfl ?_
                refine g_get 9 dX0_at_6 faX0_9_X0 tb1_12 rfl rfl ?_
                refine g_icZ_ge 20 12 dX0_at_9 rfl rfl ra (by omega) (fun c14 => ?_) (fun c14 => ?_)
                · refine g_iconst (v := iZ (-1)) 21 dX0_at_20 rfl rfl ?_
                  refine g_goto 30 dX0_at_21 rfl ?_
                  refine g_iret rfl dX0_at_30 ?_
                  refine rI ?_
                  refine g_goto 48 dX8_code_36 rfl ?_
                  refine g_iret rfl dX8_code_48 ?_
                  exact k (-1) (by unfold cdP; omega)
                · refine g_iload_n 13 dX0_at_12 rfl rfl ?_
                  refine g_aload_n 14 dX0_at_13 rfl rfl ?_
                  refine g_get 17 dX0_at_14 faX0_21_X0 tb1_12 rfl rfl ?_
                  refine g_icZ_lt 24 20 dX0_at_17 rfl rfl ra (by omega) (fun c15 => ?_) (fun c15 => ?_)
                  · refine g_aload_n 25 dX0_at_24 rfl rfl ?_
                    refine g_get 28 dX0_at_25 faX0_24_X0 tb1_12 rfl rfl ?_
                    refine g_iload_n 29 dX0_at_28 rfl rfl ?_
                    have b16 := ta8_12 ((a).toNat)
                    refine g_ialdZ (v := iZ (((Bf i.toNat)) a.toNat)) 30 dX0_at_29 tb2_12 (by omega) (by omega) (by omega) rfl rfl ?_
                    refine g_iret rfl dX0_at_30 ?_
                    refine rI ?_
                    refine g_goto 48 dX8_code_36 rfl ?_
                    refine g_iret rfl dX8_code_48 ?_
                    exact k (((Bf i.toNat)) a.toNat) (by unfold cdP; omega)
                  · refine g_iconst (v := iZ (-1)) 21 dX0_at_20 rfl rfl ?_
                    refine g_goto 30 dX0_at_21 rfl ?_
                    refine g_iret rfl dX0_at_30 ?_
                    refine rI ?_
                    refine g_goto 48 dX8_code_36 rfl ?_
                    refine g_iret rfl dX8_code_48 ?_
                    exact k (-1) (by unfold cdP; omega)
          · refine g_iconst (v := iZ (-1)) 22 dX8_code_21 rfl rfl ?_
            refine g_iret rfl dX8_code_22 ?_
            exact k (-1) (by unfold cdP; omega)
      · refine g_null 19 dX8_toolAt_18 rfl ?_
        refine g_goto 28 dX8_toolAt_19 rfl ?_
        refine g_aret rfl (Or.inl rfl) dX8_toolAt_28 ?_
        refine rN ?_
        refine g_astoreN (L1 := [some (.ref 0), some (.int (iZ i)), some (.int (iZ a)), some (.int (iZ w)), some (.null)]) 7 dX8_code_5 (by decide) rfl rfl rfl ?_
        refine g_aloadN 9 dX8_code_7 rfl rfl ?_
        refine g_ifnullN 21 dX8_code_9 rfl ?_
        refine g_iconst (v := iZ (-1)) 22 dX8_code_21 rfl rfl ?_
        refine g_iret rfl dX8_code_22 ?_
        exact k (-1) (by unfold cdP; omega)
set_option maxRecDepth 100000 in
theorem b8_same {l : Launch} {h : MH} {Q : Option Value → MH → Prop} {tn : Int} {tf : Nat → Int} {xn : Nat → Int} {xf : Nat → Nat → Int} {en : Int} {tc : Nat} {tr : Int64} {V Bf Lf : Nat → Nat → Int} {q lm lo : Nat → Int} {a b : Int} (H : IX2 h tn tf xn xf en tc tr V Bf Lf q lm lo) (ra : rg a) (rb : rg b) (k : ∀ r : Int, (smP tc V Bf a b r) → Q (some (.int (iZ r))) h) : Go l mX8_same 0 [some (.ref 0), some (.int (iZ a)), some (.int (iZ b)), none, none] [] h Q := by
  obtain ⟨HC, HS, HLm, HY, HE, hlen, hmz⟩ := id H
  obtain ⟨F0, F3, F4, htc, HT, HL⟩ := id HC
  refine g_aload_n 1 dX8_same_0 rfl rfl ?_
  refine g_iload_n 2 dX8_same_1 rfl rfl ?_
  refine g_callV (z := mX8_toolAt) (As := [.int (iZ a)]) 5 dX8_same_2 mwX8_toolAt ⟨by decide, by decide⟩ rfl wlX8_90 wiX8_toolAt wsX8_toolAt F0 rfl rfl rfl (nle rfl) (nle rfl) rfl ?_
  refine Go.to [some (.ref 0), some (.int (iZ a))] [] rfl rfl ?_
  refine g_iload_n 1 dX8_toolAt_0 rfl rfl ?_
  refine g_ifZ_lt 18 4 dX8_toolAt_1 rfl rfl ra (fun c1 => ?_) (fun c1 => ?_)
  · refine g_null 19 dX8_toolAt_18 rfl ?_
    refine g_goto 28 dX8_toolAt_19 rfl ?_
    refine g_aret rfl (Or.inl rfl) dX8_toolAt_28 ?_
    refine rN ?_
    refine g_astore_nN (L1 := [some (.ref 0), some (.int (iZ a)), some (.int (iZ b)), some (.null), none]) 6 dX8_same_5 (by decide) rfl rfl rfl ?_
    refine g_aload_n 7 dX8_same_6 rfl rfl ?_
    refine g_iload_n 8 dX8_same_7 rfl rfl ?_
    refine g_callV (z := mX8_toolAt) (As := [.int (iZ b)]) 11 dX8_same_8 mwX8_toolAt ⟨by decide, by decide⟩ rfl wlX8_90 wiX8_toolAt wsX8_toolAt F0 rfl rfl rfl (nle rfl) (nle rfl) rfl ?_
    refine Go.to [some (.ref 0), some (.int (iZ b))] [] rfl rfl ?_
    refine g_iload_n 1 dX8_toolAt_0 rfl rfl ?_
    refine g_ifZ_lt 18 4 dX8_toolAt_1 rfl rfl rb (fun c2 => ?_) (fun c2 => ?_)
    · refine g_null 19 dX8_toolAt_18 rfl ?_
      refine g_goto 28 dX8_toolAt_19 rfl ?_
      refine g_aret rfl (Or.inl rfl) dX8_toolAt_28 ?_
      refine rN ?_
      refine g_astoreN (L1 := [some (.ref 0), some (.int (iZ a)), some (.int (iZ b)), some (.null), some (.null)]) 13 dX8_same_11 (by decide) rfl rfl rfl ?_
      refine g_aload_nN 14 dX8_same_13 rfl rfl ?_
      refine g_ifnullN 22 dX8_same_14 rfl ?_
      refine g_iconst (v := iZ (-1)) 23 dX8_same_22 rfl rfl ?_
      refine g_goto 38 dX8_same_23 rfl ?_
      refine g_iret rfl dX8_same_38 ?_
      exact k (-1) ⟨fun q => by omega, fun _ => rfl⟩
    · refine g_iload_n 5 dX8_toolAt_4 rfl rfl ?_
      refine g_aload_n 6 dX8_toolAt_5 rfl rfl ?_
      refine g_get 9 dX8_toolAt_6 faX8_26_X8 F0 rfl rfl ?_
      refine g_icZ_ge 18 12 dX8_toolAt_9 rfl rfl rb (by omega) (fun c3 => ?_) (fun c3 => ?_)
      · refine g_null 19 dX8_toolAt_18 rfl ?_
        refine g_goto 28 dX8_toolAt_19 rfl ?_
        refine g_aret rfl (Or.inl rfl) dX8_toolAt_28 ?_
        refine rN ?_
        refine g_astoreN (L1 := [some (.ref 0), some (.int (iZ a)), some (.int (iZ b)), some (.null), some (.null)]) 13 dX8_same_11 (by decide) rfl rfl rfl ?_
        refine g_aload_nN 14 dX8_same_13 rfl rfl ?_
        refine g_ifnullN 22 dX8_same_14 rfl ?_
        refine g_iconst (v := iZ (-1)) 23 dX8_same_22 rfl rfl ?_
        refine g_goto 38 dX8_same_23 rfl ?_
        refine g_iret rfl dX8_same_38 ?_
        exact k (-1) ⟨fun q => by omega, fun _ => rfl⟩
      · refine g_iload_n 13 dX8_toolAt_12 rfl rfl ?_
        refine g_bipush (v := iZ (12)) 15 dX8_toolAt_13 (by decide +kernel) rfl ?_
        refine g_icZ_lt 22 18 dX8_toolAt_15 rfl rfl rb (by decide) (fun c4 => ?_) (fun c4 => ?_)
        · refine g_aload_n 23 dX8_toolAt_22 rfl rfl ?_
          refine g_get 26 dX8_toolAt_23 faX8_22_X8 F0 rfl rfl ?_
          refine g_iload_n 27 dX8_toolAt_26 rfl rfl ?_
          refine g_aaldZ 28 dX8_toolAt_27 F4 (by decide) (by omega) (by omega) (by decide) (tls_at (by omega) (by omega)) rfl ?_
          refine g_aret rfl (Or.inr ⟨_, rfl⟩) dX8_toolAt_28 ?_
          refine rR ?_
          refine g_astore (L1 := [some (.ref 0), some (.int (iZ a)), some (.int (iZ b)), some (.null), some (.ref (71 + 4 * b.toNat))]) 13 dX8_same_11 (by decide) rfl rfl rfl ?_
          refine g_aload_nN 14 dX8_same_13 rfl rfl ?_
          refine g_ifnullN 22 dX8_same_14 rfl ?_
          refine g_iconst (v := iZ (-1)) 23 dX8_same_22 rfl rfl ?_
          refine g_goto 38 dX8_same_23 rfl ?_
          refine g_iret rfl dX8_same_38 ?_
          exact k (-1) ⟨fun q => by omega, fun _ => rfl⟩
        · refine g_null 19 dX8_toolAt_18 rfl ?_
          refine g_goto 28 dX8_toolAt_19 rfl ?_
          refine g_aret rfl (Or.inl rfl) dX8_toolAt_28 ?_
          refine rN ?_
          refine g_astoreN (L1 := [some (.ref 0), some (.int (iZ a)), some (.int (iZ b)), some (.null), some (.null)]) 13 dX8_same_11 (by decide) rfl rfl rfl ?_
          refine g_aload_nN 14 dX8_same_13 rfl rfl ?_
          refine g_ifnullN 22 dX8_same_14 rfl ?_
          refine g_iconst (v := iZ (-1)) 23 dX8_same_22 rfl rfl ?_
          refine g_goto 38 dX8_same_23 rfl ?_
          refine g_iret rfl dX8_same_38 ?_
          exact k (-1) ⟨fun q => by omega, fun _ => rfl⟩
  · refine g_iload_n 5 dX8_toolAt_4 rfl rfl ?_
    refine g_aload_n 6 dX8_toolAt_5 rfl rfl ?_
    refine g_get 9 dX8_toolAt_6 faX8_26_X8 F0 rfl rfl ?_
    refine g_icZ_ge 18 12 dX8_toolAt_9 rfl rfl ra (by omega) (fun c5 => ?_) (fun c5 => ?_)
    · refine g_null 19 dX8_toolAt_18 rfl ?_
      refine g_goto 28 dX8_toolAt_19 rfl ?_
      refine g_aret rfl (Or.inl rfl) dX8_toolAt_28 ?_
      refine rN ?_
      refine g_astore_nN (L1 := [some (.ref 0), some (.int (iZ a)), some (.int (iZ b)), some (.null), none]) 6 dX8_same_5 (by decide) rfl rfl rfl ?_
      refine g_aload_n 7 dX8_same_6 rfl rfl ?_
      refine g_iload_n 8 dX8_same_7 rfl rfl ?_
      refine g_callV (z := mX8_toolAt) (As := [.int (iZ b)]) 11 dX8_same_8 mwX8_toolAt ⟨by decide, by decide⟩ rfl wlX8_90 wiX8_toolAt wsX8_toolAt F0 rfl rfl rfl (nle rfl) (nle rfl) rfl ?_
      refine Go.to [some (.ref 0), some (.int (iZ b))] [] rfl rfl ?_
      refine g_iload_n 1 dX8_toolAt_0 rfl rfl ?_
      refine g_ifZ_lt 18 4 dX8_toolAt_1 rfl rfl rb (fun c6 => ?_) (fun c6 => ?_)
      · refine g_null 19 dX8_toolAt_18 rfl ?_
        refine g_goto 28 dX8_toolAt_19 rfl ?_
        refine g_aret rfl (Or.inl rfl) dX8_toolAt_28 ?_
        refine rN ?_
        refine g_astoreN (L1 := [some (.ref 0), some (.int (iZ a)), some (.int (iZ b)), some (.null), some (.null)]) 13 dX8_same_11 (by decide) rfl rfl rfl ?_
        refine g_aload_nN 14 dX8_same_13 rfl rfl ?_
        refine g_ifnullN 22 dX8_same_14 rfl ?_
        refine g_iconst (v := iZ (-1)) 23 dX8_same_22 rfl rfl ?_
        refine g_goto 38 dX8_same_23 rfl ?_
        refine g_iret rfl dX8_same_38 ?_
        exact k (-1) ⟨fun q => by omega, fun _ => rfl⟩
      · refine g_iload_n 5 dX8_toolAt_4 rfl rfl ?_
        refine g_aload_n 6 dX8_toolAt_5 rfl rfl ?_
        refine g_get 9 dX8_toolAt_6 faX8_26_X8 F0 rfl rfl ?_
        refine g_icZ_ge 18 12 dX8_toolAt_9 rfl rfl rb (by omega) (fun c7 => ?_) (fun c7 => ?_)
        · refine g_null 19 dX8_toolAt_18 rfl ?_
          refine g_goto 28 dX8_toolAt_19 rfl ?_
          refine g_aret rfl (Or.inl rfl) dX8_toolAt_28 ?_
          refine rN ?_
          refine g_astoreN (L1 := [some (.ref 0), some (.int (iZ a)), some (.int (iZ b)), some (.null), some (.null)]) 13 dX8_same_11 (by decide) rfl rfl rfl ?_
          refine g_aload_nN 14 dX8_same_13 rfl rfl ?_
          refine g_ifnullN 22 dX8_same_14 rfl ?_
          refine g_iconst (v := iZ (-1)) 23 dX8_same_22 rfl rfl ?_
          refine g_goto 38 dX8_same_23 rfl ?_
          refine g_iret rfl dX8_same_38 ?_
          exact k (-1) ⟨fun q => by omega, fun _ => rfl⟩
        · refine g_iload_n 13 dX8_toolAt_12 rfl rfl ?_
          refine g_bipush (v := iZ (12)) 15 dX8_toolAt_13 (by decide +kernel) rfl ?_
          refine g_icZ_lt 22 18 dX8_toolAt_15 rfl rfl rb (by decide) (fun c8 => ?_) (fun c8 => ?_)
          · refine g_aload_n 23 dX8_toolAt_22 rfl rfl ?_
            refine g_get 26 dX8_toolAt_23 faX8_22_X8 F0 rfl rfl ?_
            refine g_iload_n 27 dX8_toolAt_26 rfl rfl ?_
            refine g_aaldZ 28 dX8_toolAt_27 F4 (by decide) (by omega) (by omega) (by decide) (tls_at (by omega) (by omega)) rfl ?_
            refine g_aret rfl (Or.inr ⟨_, rfl⟩) dX8_toolAt_28 ?_
            refine rR ?_
            refine g_astore (L1 := [some (.ref 0), some (.int (iZ a)), some (.int (iZ b)), some (.null), some (.ref (71 + 4 * b.toNat))]) 13 dX8_same_11 (by decide) rfl rfl rfl ?_
            refine g_aload_nN 14 dX8_same_13 rfl rfl ?_
            refine g_ifnullN 22 dX8_same_14 rfl ?_
            refine g_iconst (v := iZ (-1)) 23 dX8_same_22 rfl rfl ?_
            refine g_goto 38 dX8_same_23 rfl ?_
            refine g_iret rfl dX8_same_38 ?_
            exact k (-1) ⟨fun q => by omega, fun _ => rfl⟩
          · refine g_null 19 dX8_toolAt_18 rfl ?_
            refine g_goto 28 dX8_toolAt_19 rfl ?_
            refine g_aret rfl (Or.inl rfl) dX8_toolAt_28 ?_
            refine rN ?_
            refine g_astoreN (L1 := [some (.ref 0), some (.int (iZ a)), some (.int (iZ b)), some (.null), some (.null)]) 13 dX8_same_11 (by decide) rfl rfl rfl ?_
            refine g_aload_nN 14 dX8_same_13 rfl rfl ?_
            refine g_ifnullN 22 dX8_same_14 rfl ?_
            refine g_iconst (v := iZ (-1)) 23 dX8_same_22 rfl rfl ?_
            refine g_goto 38 dX8_same_23 rfl ?_
            refine g_iret rfl dX8_same_38 ?_
            exact k (-1) ⟨fun q => by omega, fun _ => rfl⟩
    · refine g_iload_n 13 dX8_toolAt_12 rfl rfl ?_
      refine g_bipush (v := iZ (12)) 15 dX8_toolAt_13 (by decide +kernel) rfl ?_
      refine g_icZ_lt 22 18 dX8_toolAt_15 rfl rfl ra (by decide) (fun c9 => ?_) (fun c9 => ?_)
      · refine g_aload_n 23 dX8_toolAt_22 rfl rfl ?_
        refine g_get 26 dX8_toolAt_23 faX8_22_X8 F0 rfl rfl ?_
        refine g_iload_n 27 dX8_toolAt_26 rfl rfl ?_
        refine g_aaldZ 28 dX8_toolAt_27 F4 (by decide) (by omega) (by omega) (by decide) (tls_at (by omega) (by omega)) rfl ?_
        refine g_aret rfl (Or.inr ⟨_, rfl⟩) dX8_toolAt_28 ?_
        refine rR ?_
        refine g_astore_n (L1 := [some (.ref 0), some (.int (iZ a)), some (.int (iZ b)), some (.ref (71 + 4 * a.toNat)), none]) 6 dX8_same_5 (by decide) rfl rfl rfl ?_
        refine g_aload_n 7 dX8_same_6 rfl rfl ?_
        refine g_iload_n 8 dX8_same_7 rfl rfl ?_
        refine g_callV (z := mX8_toolAt) (As := [.int (iZ b)]) 11 dX8_same_8 mwX8_toolAt ⟨by decide, by decide⟩ rfl wlX8_90 wiX8_toolAt wsX8_toolAt F0 rfl rfl rfl (nle rfl) (nle rfl) rfl ?_
        refine Go.to [some (.ref 0), some (.int (iZ b))] [] rfl rfl ?_
        refine g_iload_n 1 dX8_toolAt_0 rfl rfl ?_
        refine g_ifZ_lt 18 4 dX8_toolAt_1 rfl rfl rb (fun c10 => ?_) (fun c10 => ?_)
        · refine g_null 19 dX8_toolAt_18 rfl ?_
          refine g_goto 28 dX8_toolAt_19 rfl ?_
          refine g_aret rfl (Or.inl rfl) dX8_toolAt_28 ?_
          refine rN ?_
          refine g_astoreN (L1 := [some (.ref 0), some (.int (iZ a)), some (.int (iZ b)), some (.ref (71 + 4 * a.toNat)), some (.null)]) 13 dX8_same_11 (by decide) rfl rfl rfl ?_
          refine g_aload_n 14 dX8_same_13 rfl rfl ?_
          refine g_ifnull 17 dX8_same_14 rfl ?_
          refine g_aloadN 19 dX8_same_17 rfl rfl ?_
          refine g_ifnonnullN 22 dX8_same_19 rfl ?_
          refine g_iconst (v := iZ (-1)) 23 dX8_same_22 rfl rfl ?_
          refine g_goto 38 dX8_same_23 rfl ?_
          refine g_iret rfl dX8_same_38 ?_
          exact k (-1) ⟨fun q => by omega, fun _ => rfl⟩
        · refine g_iload_n 5 dX8_toolAt_4 rfl rfl ?_
          refine g_aload_n 6 dX8_toolAt_5 rfl rfl ?_
          refine g_get 9 dX8_toolAt_6 faX8_26_X8 F0 rfl rfl ?_
          refine g_icZ_ge 18 12 dX8_toolAt_9 rfl rfl rb (by omega) (fun c11 => ?_) (fun c11 => ?_)
          · refine g_null 19 dX8_toolAt_18 rfl ?_
            refine g_goto 28 dX8_toolAt_19 rfl ?_
            refine g_aret rfl (Or.inl rfl) dX8_toolAt_28 ?_
            refine rN ?_
            refine g_astoreN (L1 := [some (.ref 0), some (.int (iZ a)), some (.int (iZ b)), some (.ref (71 + 4 * a.toNat)), some (.null)]) 13 dX8_same_11 (by decide) rfl rfl rfl ?_
            refine g_aload_n 14 dX8_same_13 rfl rfl ?_
            refine g_ifnull 17 dX8_same_14 rfl ?_
            refine g_aloadN 19 dX8_same_17 rfl rfl ?_
            refine g_ifnonnullN 22 dX8_same_19 rfl ?_
            refine g_iconst (v := iZ (-1)) 23 dX8_same_22 rfl rfl ?_
            refine g_goto 38 dX8_same_23 rfl ?_
            refine g_iret rfl dX8_same_38 ?_
            exact k (-1) ⟨fun q => by omega, fun _ => rfl⟩
          · refine g_iload_n 13 dX8_toolAt_12 rfl rfl ?_
            refine g_bipush (v := iZ (12)) 15 dX8_toolAt_13 (by decide +kernel) rfl ?_
            refine g_icZ_lt 22 18 dX8_toolAt_15 rfl rfl rb (by decide) (fun c12 => ?_) (fun c12 => ?_)
            · refine g_aload_n 23 dX8_toolAt_22 rfl rfl ?_
              refine g_get 26 dX8_toolAt_23 faX8_22_X8 F0 rfl rfl ?_
              refine g_iload_n 27 dX8_toolAt_26 rfl rfl ?_
              refine g_aaldZ 28 dX8_toolAt_27 F4 (by decide) (by omega) (by omega) (by decide) (tls_at (by omega) (by omega)) rfl ?_
              refine g_aret rfl (Or.inr ⟨_, rfl⟩) dX8_toolAt_28 ?_
              refine rR ?_
              refine g_astore (L1 := [some (.ref 0), some (.int (iZ a)), some (.int (iZ b)), some (.ref (71 + 4 * a.toNat)), some (.ref (71 + 4 * b.toNat))]) 13 dX8_same_11 (by decide) rfl rfl rfl ?_
              refine g_aload_n 14 dX8_same_13 rfl rfl ?_
              refine g_ifnull 17 dX8_same_14 rfl ?_
              refine g_aload 19 dX8_same_17 rfl rfl ?_
              refine g_ifnonnull 26 dX8_same_19 rfl ?_
              refine g_aload_n 27 dX8_same_26 rfl rfl ?_
              obtain ⟨ta1_13, ta2_13, ta3_13, ta4_13, ta5_13, ta6_13, ta7_13, ta8_13, ta9_13, tb0_13, tb1_13, tb2_13, tb3_13⟩ := HL (a.toNat) (by omega)
              refine g_get 30 dX8_same_27 faX8_94_X7 tb0_13 rfl rfl ?_
              refine g_aload 32 dX8_same_30 rfl rfl ?_
              obtain ⟨ta1_14, ta2_14, ta3_14, ta4_14, ta5_14, ta6_14, ta7_14, ta8_14, ta9_14, tb0_14, tb1_14, tb2_14, tb3_14⟩ := HL (b.toNat) (by omega)
              refine g_get 35 dX8_same_32 faX8_94_X7 tb0_14 rfl rfl ?_
              refine g_callV (z := mX0_unlike) (As := [.ref (71 + 4 * b.toNat + 1)]) 38 dX8_same_35 mwX0_unlike ⟨by decide, by decide⟩ rfl wlX8_162 wiX0_unlike wsX0_unlike tb1_13 rfl rfl rfl (nle rfl) (nle rfl) rfl ?_
              refine c_unl (M := (V 0 a.toNat).toNat) (N := (V 0 b.toNat).toNat) tb1_13 tb2_13 tb3_13 tb1_14 tb2_14 tb3_14 ta8_13 ta9_13 ta8_14 ta9_14 (by omega) (by omega) (by omega) (by omega) (by omega) (by omega) (fun z15 rz15 => ?_)
              refine rI ?_
              refine g_iret rfl dX8_same_38 ?_
              exact k (z15) ⟨fun _ => rz15.1, fun q => by omega⟩
            · refine g_null 19 dX8_toolAt_18 rfl ?_
              refine g_goto 28 dX8_toolAt_19 rfl ?_
              refine g_aret rfl (Or.inl rfl) dX8_toolAt_28 ?_
              refine rN ?_
              refine g_astoreN (L1 := [some (.ref 0), some (.int (iZ a)), some (.int (iZ b)), some (.ref (71 + 4 * a.toNat)), some (.null)]) 13 dX8_same_11 (by decide) rfl rfl rfl ?_
              refine g_aload_n 14 dX8_same_13 rfl rfl ?_
              refine g_ifnull 17 dX8_same_14 rfl ?_
              refine g_aloadN 19 dX8_same_17 rfl rfl ?_
              refine g_ifnonnullN 22 dX8_same_19 rfl ?_
              refine g_iconst (v := iZ (-1)) 23 dX8_same_22 rfl rfl ?_
              refine g_goto 38 dX8_same_23 rfl ?_
              refine g_iret rfl dX8_same_38 ?_
              exact k (-1) ⟨fun q => by omega, fun _ => rfl⟩
      · refine g_null 19 dX8_toolAt_18 rfl ?_
        refine g_goto 28 dX8_toolAt_19 rfl ?_
        refine g_aret rfl (Or.inl rfl) dX8_toolAt_28 ?_
        refine rN ?_
        refine g_astore_nN (L1 := [some (.ref 0), some (.int (iZ a)), some (.int (iZ b)), some (.null), none]) 6 dX8_same_5 (by decide) rfl rfl rfl ?_
        refine g_aload_n 7 dX8_same_6 rfl rfl ?_
        refine g_iload_n 8 dX8_same_7 rfl rfl ?_
        refine g_callV (z := mX8_toolAt) (As := [.int (iZ b)]) 11 dX8_same_8 mwX8_toolAt ⟨by decide, by decide⟩ rfl wlX8_90 wiX8_toolAt wsX8_toolAt F0 rfl rfl rfl (nle rfl) (nle rfl) rfl ?_
        refine Go.to [some (.ref 0), some (.int (iZ b))] [] rfl rfl ?_
        refine g_iload_n 1 dX8_toolAt_0 rfl rfl ?_
        refine g_ifZ_lt 18 4 dX8_toolAt_1 rfl rfl rb (fun c16 => ?_) (fun c16 => ?_)
        · refine g_null 19 dX8_toolAt_18 rfl ?_
          refine g_goto 28 dX8_toolAt_19 rfl ?_
          refine g_aret rfl (Or.inl rfl) dX8_toolAt_28 ?_
          refine rN ?_
          refine g_astoreN (L1 := [some (.ref 0), some (.int (iZ a)), some (.int (iZ b)), some (.null), some (.null)]) 13 dX8_same_11 (by decide) rfl rfl rfl ?_
          refine g_aload_nN 14 dX8_same_13 rfl rfl ?_
          refine g_ifnullN 22 dX8_same_14 rfl ?_
          refine g_iconst (v := iZ (-1)) 23 dX8_same_22 rfl rfl ?_
          refine g_goto 38 dX8_same_23 rfl ?_
          refine g_iret rfl dX8_same_38 ?_
          exact k (-1) ⟨fun q => by omega, fun _ => rfl⟩
        · refine g_iload_n 5 dX8_toolAt_4 rfl rfl ?_
          refine g_aload_n 6 dX8_toolAt_5 rfl rfl ?_
          refine g_get 9 dX8_toolAt_6 faX8_26_X8 F0 rfl rfl ?_
          refine g_icZ_ge 18 12 dX8_toolAt_9 rfl rfl rb (by omega) (fun c17 => ?_) (fun c17 => ?_)
          · refine g_null 19 dX8_toolAt_18 rfl ?_
            refine g_goto 28 dX8_toolAt_19 rfl ?_
            refine g_aret rfl (Or.inl rfl) dX8_toolAt_28 ?_
            refine rN ?_
            refine g_astoreN (L1 := [some (.ref 0), some (.int (iZ a)), some (.int (iZ b)), some (.null), some (.null)]) 13 dX8_same_11 (by decide) rfl rfl rfl ?_
            refine g_aload_nN 14 dX8_same_13 rfl rfl ?_
            refine g_ifnullN 22 dX8_same_14 rfl ?_
            refine g_iconst (v := iZ (-1)) 23 dX8_same_22 rfl rfl ?_
            refine g_goto 38 dX8_same_23 rfl ?_
            refine g_iret rfl dX8_same_38 ?_
            exact k (-1) ⟨fun q => by omega, fun _ => rfl⟩
          · refine g_iload_n 13 dX8_toolAt_12 rfl rfl ?_
            refine g_bipush (v := iZ (12)) 15 dX8_toolAt_13 (by decide +kernel) rfl ?_
            refine g_icZ_lt 22 18 dX8_toolAt_15 rfl rfl rb (by decide) (fun c18 => ?_) (fun c18 => ?_)
            · refine g_aload_n 23 dX8_toolAt_22 rfl rfl ?_
              refine g_get 26 dX8_toolAt_23 faX8_22_X8 F0 rfl rfl ?_
              refine g_iload_n 27 dX8_toolAt_26 rfl rfl ?_
              refine g_aaldZ 28 dX8_toolAt_27 F4 (by decide) (by omega) (by omega) (by decide) (tls_at (by omega) (by omega)) rfl ?_
              refine g_aret rfl (Or.inr ⟨_, rfl⟩) dX8_toolAt_28 ?_
              refine rR ?_
              refine g_astore (L1 := [some (.ref 0), some (.int (iZ a)), some (.int (iZ b)), some (.null), some (.ref (71 + 4 * b.toNat))]) 13 dX8_same_11 (by decide) rfl rfl rfl ?_
              refine g_aload_nN 14 dX8_same_13 rfl rfl ?_
              refine g_ifnullN 22 dX8_same_14 rfl ?_
              refine g_iconst (v := iZ (-1)) 23 dX8_same_22 rfl rfl ?_
              refine g_goto 38 dX8_same_23 rfl ?_
              refine g_iret rfl dX8_same_38 ?_
              exact k (-1) ⟨fun q => by omega, fun _ => rfl⟩
            · refine g_null 19 dX8_toolAt_18 rfl ?_
              refine g_goto 28 dX8_toolAt_19 rfl ?_
              refine g_aret rfl (Or.inl rfl) dX8_toolAt_28 ?_
              refine rN ?_
              refine g_astoreN (L1 := [some (.ref 0), some (.int (iZ a)), some (.int (iZ b)), some (.null), some (.null)]) 13 dX8_same_11 (by decide) rfl rfl rfl ?_
              refine g_aload_nN 14 dX8_same_13 rfl rfl ?_
              refine g_ifnullN 22 dX8_same_14 rfl ?_
              refine g_iconst (v := iZ (-1)) 23 dX8_same_22 rfl rfl ?_
              refine g_goto 38 dX8_same_23 rfl ?_
              refine g_iret rfl dX8_same_38 ?_
              exact k (-1) ⟨fun q => by omega, fun _ => rfl⟩
set_option maxRecDepth 100000 in
theorem b8_ran {l : Launch} {h : MH} {Q : Option Value → MH → Prop} {tn : Int} {tf : Nat → Int} {xn : Nat → Int} {xf : Nat → Nat → Int} {en : Int} {tc : Nat} {tr : Int64} {V Bf Lf : Nat → Nat → Int} {q lm lo : Nat → Int} {w : Int} (H : IX2 h tn tf xn xf en tc tr V Bf Lf q lm lo) (rw : rg w) (k : ∀ r : Int, (rnP q w r) → Q (some (.int (iZ r))) h) : Go l mX8_ran 0 [some (.ref 0), some (.int (iZ w))] [] h Q := by
  obtain ⟨HC, HS, HLm, HY, HE, hlen, hmz⟩ := id H
  obtain ⟨F0, F3, F4, htc, HT, HL⟩ := id HC
  refine g_iload_n 1 dX8_ran_0 rfl rfl ?_
  by_cases c1 : w < 0 ∨ 5 < w
  · refine g_tabZO 91 dX8_ran_1 rw c1 rfl ?_
    refine g_iconst (v := iZ (-1)) 92 dX8_ran_91 rfl rfl ?_
    refine g_iret rfl dX8_ran_92 ?_
    exact k (-1) (by unfold rnP; omega)
  · have c2 : w = 0 ∨ w = 1 ∨ w = 2 ∨ w = 3 ∨ w = 4 ∨ w = 5 := by omega
    rcases c2 with c2 | c2 | c2 | c2 | c2 | c2
    · refine g_tabZI (0) 40 dX8_ran_1 rw c2 (by decide) (by decide) rfl rfl ?_
      refine g_aload_n 41 dX8_ran_40 rfl rfl ?_
      refine g_get 44 dX8_ran_41 faX8_46_X8 F0 rfl rfl ?_
      obtain ⟨le, lh, lg, la1, la2, la3, la4, la5, la6, la7, la8, la9, la10, la11, lb0, lb1, lb2, lb3, lb4⟩ := id HLm
      refine g_get 47 dX8_ran_44 faX8_136_X2 lb0 rfl rfl ?_
      refine g_iret rfl dX8_ran_47 ?_
      exact k (q 0) (by unfold rnP; omega)
    · refine g_tabZI (1) 48 dX8_ran_1 rw c2 (by decide) (by decide) rfl rfl ?_
      refine g_aload_n 49 dX8_ran_48 rfl rfl ?_
      refine g_get 52 dX8_ran_49 faX8_46_X8 F0 rfl rfl ?_
      obtain ⟨le, lh, lg, la1, la2, la3, la4, la5, la6, la7, la8, la9, la10, la11, lb0, lb1, lb2, lb3, lb4⟩ := id HLm
      refine g_get 55 dX8_ran_52 faX8_139_X2 lb0 rfl rfl ?_
      refine g_iret rfl dX8_ran_55 ?_
      exact k (q 1) (by unfold rnP; omega)
    · refine g_tabZI (2) 56 dX8_ran_1 rw c2 (by decide) (by decide) rfl rfl ?_
      refine g_aload_n 57 dX8_ran_56 rfl rfl ?_
      refine g_get 60 dX8_ran_57 faX8_46_X8 F0 rfl rfl ?_
      obtain ⟨le, lh, lg, la1, la2, la3, la4, la5, la6, la7, la8, la9, la10, la11, lb0, lb1, lb2, lb3, lb4⟩ := id HLm
      refine g_get 63 dX8_ran_60 faX8_142_X2 lb0 rfl rfl ?_
      refine g_iret rfl dX8_ran_63 ?_
      exact k (q 2) (by unfold rnP; omega)
    · refine g_tabZI (3) 64 dX8_ran_1 rw c2 (by decide) (by decide) rfl rfl ?_
      refine g_aload_n 65 dX8_ran_64 rfl rfl ?_
      refine g_get 68 dX8_ran_65 faX8_46_X8 F0 rfl rfl ?_
      obtain ⟨le, lh, lg, la1, la2, la3, la4, la5, la6, la7, la8, la9, la10, la11, lb0, lb1, lb2, lb3, lb4⟩ := id HLm
      refine g_get 71 dX8_ran_68 faX8_145_X2 lb0 rfl rfl ?_
      refine g_iret rfl dX8_ran_71 ?_
      exact k (q 3) (by unfold rnP; omega)
    · refine g_tabZI (4) 72 dX8_ran_1 rw c2 (by decide) (by decide) rfl rfl ?_
      refine g_aload_n 73 dX8_ran_72 rfl rfl ?_
      refine g_get 76 dX8_ran_73 faX8_46_X8 F0 rfl rfl ?_
      obtain ⟨le, lh, lg, la1, la2, la3, la4, la5, la6, la7, la8, la9, la10, la11, lb0, lb1, lb2, lb3, lb4⟩ := id HLm
      refine g_get 79 dX8_ran_76 faX8_148_X2 lb0 rfl rfl ?_
      refine g_iret rfl dX8_ran_79 ?_
      exact k (q 4) (by unfold rnP; omega)
    · refine g_tabZI (5) 80 dX8_ran_1 rw c2 (by decide) (by decide) rfl rfl ?_
      refine g_aload_n 81 dX8_ran_80 rfl rfl ?_
      refine g_get 84 dX8_ran_81 faX8_46_X8 F0 rfl rfl ?_
      obtain ⟨le, lh, lg, la1, la2, la3, la4, la5, la6, la7, la8, la9, la10, la11, lb0, lb1, lb2, lb3, lb4⟩ := id HLm
      refine g_get 87 dX8_ran_84 faX8_102_X2 lb0 rfl rfl ?_
      refine g_get 90 dX8_ran_87 faX8_109_X0 lb2 rfl rfl ?_
      refine g_iret rfl dX8_ran_90 ?_
      exact k (q 5) (by unfold rnP; omega)
set_option maxRecDepth 100000 in
theorem b8_tape {l : Launch} {h : MH} {Q : Option Value → MH → Prop} {tn : Int} {tf : Nat → Int} {xn : Nat → Int} {xf : Nat → Nat → Int} {en : Int} {tc : Nat} {tr : Int64} {V Bf Lf : Nat → Nat → Int} {q lm lo : Nat → Int} {a w : Int} (H : IX2 h tn tf xn xf en tc tr V Bf Lf q lm lo) (ra : rg a) (rw : rg w) (k : ∀ r : Int, (tpP q lm lo a w r) → Q (some (.int (iZ r))) h) : Go l mX8_tape 0 [some (.ref 0), some (.int (iZ a)), some (.int (iZ w))] [] h Q := by
  obtain ⟨HC, HS, HLm, HY, HE, hlen, hmz⟩ := id H
  obtain ⟨F0, F3, F4, htc, HT, HL⟩ := id HC
  refine g_iload_n 1 dX8_tape_0 rfl rfl ?_
  refine g_ifZ_ne 16 4 dX8_tape_1 rfl rfl rw (fun c1 => ?_) (fun c1 => ?_)
  · refine g_iload_n 17 dX8_tape_16 rfl rfl ?_
    refine g_iconst (v := iZ (1)) 18 dX8_tape_17 rfl rfl ?_
    refine g_icZ_ne 32 21 dX8_tape_18 rfl rfl rw (by decide) (fun c2 => ?_) (fun c2 => ?_)
    · refine g_iconst (v := iZ (-1)) 33 dX8_tape_32 rfl rfl ?_
      refine g_iret rfl dX8_tape_33 ?_
      exact k (-1) (by unfold tpP; omega)
    · refine g_aload_n 22 dX8_tape_21 rfl rfl ?_
      refine g_get 25 dX8_tape_22 faX8_46_X8 F0 rfl rfl ?_
      refine g_iload_n 26 dX8_tape_25 rfl rfl ?_
      obtain ⟨le, lh, lg, la1, la2, la3, la4, la5, la6, la7, la8, la9, la10, la11, lb0, lb1, lb2, lb3, lb4⟩ := id HLm
      refine g_callV (z := mX2_memoryAt) (As := [.int (iZ a)]) 29 dX8_tape_26 mwX2_memoryAt ⟨by decide, by decide⟩ rfl wlX8_151 wiX2_memoryAt wsX2_memoryAt lb0 rfl rfl rfl (nle rfl) (nle rfl) rfl ?_
      refine Go.to [some (.ref 15), some (.int (iZ a))] [] rfl rfl ?_
      refine g_iload_n 1 dX2_memoryAt_0 rfl rfl ?_
      refine g_ifZ_lt 11 4 dX2_memoryAt_1 rfl rfl ra (fun c4 => ?_) (fun c4 => ?_)
      · refine g_iconst (v := iZ (-1)) 12 dX2_memoryAt_11 rfl rfl ?_
        refine g_goto 21 dX2_memoryAt_12 rfl ?_
        refine g_iret rfl dX2_memoryAt_21 ?_
        refine rI ?_
        refine g_goto 33 dX8_tape_29 rfl ?_
        refine g_iret rfl dX8_tape_33 ?_
        exact k (-1) (by unfold tpP; omega)
      · refine g_iload_n 5 dX2_memoryAt_4 rfl rfl ?_
        refine g_sipush (v := iZ (256)) 8 dX2_memoryAt_5 (by decide +kernel) rfl ?_
        refine g_icZ_lt 15 11 dX2_memoryAt_8 rfl rfl ra (by decide) (fun c5 => ?_) (fun c5 => ?_)
        · refine g_aload_n 16 dX2_memoryAt_15 rfl rfl ?_
          refine g_get 19 dX2_memoryAt_16 faX2_9_X2 lb0 rfl rfl ?_
          refine g_iload_n 20 dX2_memoryAt_19 rfl rfl ?_
          have b6 := la9 ((a).toNat)
          refine g_ialdZ (v := iZ (lm a.toNat)) 21 dX2_memoryAt_20 lb1 (by omega) (by omega) (by decide) rfl rfl ?_
          refine g_iret rfl dX2_memoryAt_21 ?_
          refine rI ?_
          refine g_goto 33 dX8_tape_29 rfl ?_
          refine g_iret rfl dX8_tape_33 ?_
          exact k (lm a.toNat) (by unfold tpP; omega)
        · refine g_iconst (v := iZ (-1)) 12 dX2_memoryAt_11 rfl rfl ?_
          refine g_goto 21 dX2_memoryAt_12 rfl ?_
          refine g_iret rfl dX2_memoryAt_21 ?_
          refine rI ?_
          refine g_goto 33 dX8_tape_29 rfl ?_
          refine g_iret rfl dX8_tape_33 ?_
          exact k (-1) (by unfold tpP; omega)
  · refine g_aload_n 5 dX8_tape_4 rfl rfl ?_
    refine g_get 8 dX8_tape_5 faX8_46_X8 F0 rfl rfl ?_
    obtain ⟨le, lh, lg, la1, la2, la3, la4, la5, la6, la7, la8, la9, la10, la11, lb0, lb1, lb2, lb3, lb4⟩ := id HLm
    refine g_get 11 dX8_tape_8 faX8_102_X2 lb0 rfl rfl ?_
    refine g_iload_n 12 dX8_tape_11 rfl rfl ?_
    refine g_callV (z := mX0_at) (As := [.int (iZ a)]) 15 dX8_tape_12 mwX0_at ⟨by decide, by decide⟩ rfl wlX8_125 wiX0_at wsX0_at lb2 rfl rfl rfl (nle rfl) (nle rfl) rfl ?_
    refine Go.to [some (.ref 17), some (.int (iZ a))] [] rfl rfl ?_
    refine g_iload_n 1 dX0_at_0 rfl rfl ?_
    refine g_ifZ_lt 20 4 dX0_at_1 rfl rfl ra (fun c8 => ?_) (fun c8 => ?_)
    · refine g_iconst (v := iZ (-1)) 21 dX0_at_20 rfl rfl ?_
      refine g_goto 30 dX0_at_21 rfl ?_
      refine g_iret rfl dX0_at_30 ?_
      refine rI ?_
      refine g_iret rfl dX8_tape_15 ?_
      exact k (-1) (by unfold tpP; omega)
    · refine g_iload_n 5 dX0_at_4 rfl rfl ?_
      refine g_aload_n 6 dX0_at_5 rfl rfl ?_
      refine g_get 9 dX0_at_6 faX0_9_X0 lb2 rfl rfl ?_
      refine g_icZ_ge 20 12 dX0_at_9 rfl rfl ra (by omega) (fun c9 => ?_) (fun c9 => ?_)
      · refine g_iconst (v := iZ (-1)) 21 dX0_at_20 rfl rfl ?_
        refine g_goto 30 dX0_at_21 rfl ?_
        refine g_iret rfl dX0_at_30 ?_
        refine rI ?_
        refine g_iret rfl dX8_tape_15 ?_
        exact k (-1) (by unfold tpP; omega)
      · refine g_iload_n 13 dX0_at_12 rfl rfl ?_
        refine g_aload_n 14 dX0_at_13 rfl rfl ?_
        refine g_get 17 dX0_at_14 faX0_21_X0 lb2 rfl rfl ?_
        refine g_icZ_lt 24 20 dX0_at_17 rfl rfl ra (by decide) (fun _ => ?_) (fun q => absurd q (by omega))
        refine g_aload_n 25 dX0_at_24 rfl rfl ?_
        refine g_get 28 dX0_at_25 faX0_24_X0 lb2 rfl rfl ?_
        refine g_iload_n 29 dX0_at_28 rfl rfl ?_
        have b10 := la10 ((a).toNat)
        refine g_ialdZ (v := iZ (lo a.toNat)) 30 dX0_at_29 lb3 (by omega) (by omega) (by decide) rfl rfl ?_
        refine g_iret rfl dX0_at_30 ?_
        refine rI ?_
        refine g_iret rfl dX8_tape_15 ?_
        exact k (lo a.toNat) (by unfold tpP; omega)
