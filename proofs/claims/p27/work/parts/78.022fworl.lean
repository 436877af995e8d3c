set_option maxRecDepth 100000 in
theorem f_woL {l : Launch} {h : MH} {Q : Option Value → MH → Prop} {tr : Int64} {mn kt bs ee pa fu st so va ed cm a x p dn tk ie en x1 x2 : Int} {tx : Nat → Int32} (F0 : h[50]? = some (.inr (8, [.long (tr), .ref 51, .int (iZ mn), .ref 52, .ref 53, .int (iZ kt), .ref 54, .ref 55, .ref 56, .ref 57, .ref 58, .ref 59, .ref 60, .int (iZ bs), .int (iZ ee), .int (iZ pa), .int (iZ fu), .int (iZ st), .int (iZ so), .int (iZ va), .int (iZ ed), .ref 61, .ref 62, .ref 63, .ref 64, .int (iZ cm), .int (iZ a), .int (iZ x), .int (iZ p), .int (iZ dn), .int (iZ tk), .int (iZ ie), .ref 65, .ref 66, .ref 67, .int (iZ en), .ref 68, .ref 69, .ref 70]))) (F1 : h[52]? = some (.inl (1, 1600, .inl tx))) (rmn : (0 ≤ mn ∧ mn ≤ 200)) (rkt : (0 ≤ kt ∧ kt ≤ 12)) (rbs : (0 ≤ bs ∧ bs ≤ 1400)) (ree : (0 ≤ ee ∧ ee ≤ 200)) (rpa : (0 ≤ pa ∧ pa ≤ 200)) (rfu : (-9 ≤ fu ∧ fu ≤ 200)) (rst : (0 ≤ st ∧ st ≤ 200)) (rso : (0 ≤ so ∧ so ≤ 5)) (rva : (-100 ≤ va ∧ va ≤ 3000)) (red : (0 ≤ ed ∧ ed ≤ 200)) (rcm : (0 ≤ cm ∧ cm ≤ 256)) (ra : (0 ≤ a ∧ a ≤ 255)) (rx : (0 ≤ x ∧ x ≤ 255)) (rp : (0 ≤ p ∧ p ≤ 255)) (rdn : (0 ≤ dn ∧ dn ≤ 5000)) (rtk : (0 ≤ tk ∧ tk ≤ 200)) (rie : (0 ≤ ie ∧ ie ≤ 1)) (ren : (0 ≤ en ∧ en ≤ 12)) (r1 : 0 ≤ x1 ∧ x1 ≤ 200) (r2 : 0 ≤ x2 ∧ x2 ≤ 200) (hB : okB tx) (h12 : x1 < x2) (hc : ∀ j : Int, x1 ≤ j → j < x2 → 97 ≤ hb tx (bs + j) ∧ hb tx (bs + j) ≤ 122) (k : Q (some (.int (iZ (wdx (fun j => hb tx (bs + j)) x1 (x2 - x1))))) h) : ∀ (m0 : Nat) (v : Int64) (u : Int), (201 - u).toNat = m0 → x1 ≤ u ∧ u ≤ x2 ∧ u ≤ x1 + 6 → v = iL (ench (fun j => hb tx (bs + j)) x1 (u - x1).toNat) → Go l mX9_wordOf 5 [some (.ref 50), some (.int (iZ x1)), some (.int (iZ x2)), some (.long (v)), none, some (.int (iZ u))] [] h Q := by
  intro m0
  induction m0 using Nat.strongRecOn with
  | ind m0 ih =>
    intro v u hmz hu hv
    have hen := ench_6 (tf := (fun j => hb tx (bs + j))) (p := x1) (u - x1).toNat (by omega) (fun j hj => hc (x1 + j) (by omega) (by omega))
    refine g_iload 7 dX9_wordOf_5 rfl rfl ?_
    refine g_iload_n 8 dX9_wordOf_7 rfl rfl ?_
    refine g_icZ_ge 43 11 dX9_wordOf_8 rfl rfl (by omega) (by omega) (fun c1 => ?_) (fun c1 => ?_)
    · refine g_bipush (v := iZ (-9)) 45 dX9_wordOf_43 (by decide +kernel) rfl ?_
      refine g_istore (L1 := [some (.ref 50), some (.int (iZ x1)), some (.int (iZ x2)), some (.long (v)), none, some (.int (iZ (-9)))]) 47 dX9_wordOf_45 (by decide) rfl rfl rfl ?_
      subst hv
      refine f_wo0 r1 r2 hen rfl (by decide) ?_
      have e9 : (if 5 < x2 - x1 then (-9 : Int) else fow (ench (fun j => hb tx (bs + j)) x1 (u - x1).toNat) 17) = wdx (fun j => hb tx (bs + j)) x1 (x2 - x1) := by
        by_cases q9 : 5 < x2 - x1
        · rw [if_pos q9]; unfold wdx; rw [if_pos q9]
        · rw [if_neg q9, show (u - x1).toNat = (x2 - x1).toNat by omega]; exact enc_wdx (by omega) (by omega) (fun j a9 b9 => hc j a9 (by omega))
      rw [e9]
      exact k
    · refine g_iload 13 dX9_wordOf_11 rfl rfl ?_
      refine g_iload_n 14 dX9_wordOf_13 rfl rfl ?_
      refine g_bipush (v := iZ (6)) 16 dX9_wordOf_14 (by decide +kernel) rfl ?_
      refine g_iaddZ (x1 + 6) 17 dX9_wordOf_16 (by omega) rfl ?_
      refine g_icZ_ge 43 20 dX9_wordOf_17 rfl rfl (by omega) (by omega) (fun c2 => ?_) (fun c2 => ?_)
      · refine g_bipush (v := iZ (-9)) 45 dX9_wordOf_43 (by decide +kernel) rfl ?_
        refine g_istore (L1 := [some (.ref 50), some (.int (iZ x1)), some (.int (iZ x2)), some (.long (v)), none, some (.int (iZ (-9)))]) 47 dX9_wordOf_45 (by decide) rfl rfl rfl ?_
        subst hv
        refine f_wo0 r1 r2 hen rfl (by decide) ?_
        have e9 : (if 5 < x2 - x1 then (-9 : Int) else fow (ench (fun j => hb tx (bs + j)) x1 (u - x1).toNat) 17) = wdx (fun j => hb tx (bs + j)) x1 (x2 - x1) := by
          by_cases q9 : 5 < x2 - x1
          · rw [if_pos q9]; unfold wdx; rw [if_pos q9]
          · rw [if_neg q9, show (u - x1).toNat = (x2 - x1).toNat by omega]; exact enc_wdx (by omega) (by omega) (fun j a9 b9 => hc j a9 (by omega))
        rw [e9]
        exact k
      · refine g_lload_n 21 dX9_wordOf_20 rfl rfl ?_
        refine g_aload_n 22 dX9_wordOf_21 rfl rfl ?_
        refine g_get 25 dX9_wordOf_22 faX9_13_X9 F0 rfl rfl ?_
        refine g_aload_n 26 dX9_wordOf_25 rfl rfl ?_
        refine g_get 29 dX9_wordOf_26 faX9_94_X9 F0 rfl rfl ?_
        refine g_iload 31 dX9_wordOf_29 rfl rfl ?_
        refine g_iaddZ (bs + u) 32 dX9_wordOf_31 (by omega) rfl ?_
        refine g_baldZ 33 dX9_wordOf_32 F1 (by omega) (by omega) (by decide) rfl rfl ?_
        refine Go.zof ?_
        refine g_callS (z := mX9_more) (As := [.long (v), .int (iZ ((tx (bs + u).toNat).toInt))]) 36 dX9_wordOf_33 mwX9_more ⟨by decide, by decide⟩ rfl wlX9_123 wtX9_more rfl (nle rfl) (nle rfl) rfl ?_
        subst hv
        have ec := hb_sm hB (hc u (by omega) (by omega))
        refine Go.to [some (.long (iL (ench (fun j => hb tx (bs + j)) x1 (u - x1).toNat))), none, some (.int (iZ (hb tx (bs + u))))] [] (by rw [← ec]; rfl) rfl ?_
        have hcu := hc u (by omega) (by omega)
        refine f_more (by omega) ?_
        refine rL ?_
        refine g_lstore_n (L1 := [some (.ref 50), some (.int (iZ x1)), some (.int (iZ x2)), some (.long (iL (mor (ench (fun j => hb tx (bs + j)) x1 (u - x1).toNat) (hb tx (bs + u))))), none, some (.int (iZ u))]) 37 dX9_wordOf_36 (by decide) rfl rfl rfl ?_
        refine g_iincZ [some (.ref 50), some (.int (iZ x1)), some (.int (iZ x2)), some (.long (iL (mor (ench (fun j => hb tx (bs + j)) x1 (u - x1).toNat) (hb tx (bs + u))))), none, some (.int (iZ (u + 1)))] 40 dX9_wordOf_37 rfl (by omega) (by decide) rfl rfl rfl ?_
        refine g_goto 5 dX9_wordOf_40 rfl ?_
        exact ih _ (by omega) _ (u + 1) rfl (by omega) (by rw [show (u + 1 - x1).toNat = (u - x1).toNat + 1 by omega, ench]; show _ = iL (_ * 27 + hb tx (bs + (x1 + ((u - x1).toNat : Int))) - 96); rw [show x1 + ((u - x1).toNat : Int) = u by omega]; congr 1; exact if_neg (by omega))
set_option maxRecDepth 100000 in
theorem f_word {l : Launch} {h : MH} {Q : Option Value → MH → Prop} {tr : Int64} {mn kt bs ee pa fu st so va ed cm a x p dn tk ie en x1 x2 : Int} {tx : Nat → Int32} (F0 : h[50]? = some (.inr (8, [.long (tr), .ref 51, .int (iZ mn), .ref 52, .ref 53, .int (iZ kt), .ref 54, .ref 55, .ref 56, .ref 57, .ref 58, .ref 59, .ref 60, .int (iZ bs), .int (iZ ee), .int (iZ pa), .int (iZ fu), .int (iZ st), .int (iZ so), .int (iZ va), .int (iZ ed), .ref 61, .ref 62, .ref 63, .ref 64, .int (iZ cm), .int (iZ a), .int (iZ x), .int (iZ p), .int (iZ dn), .int (iZ tk), .int (iZ ie), .ref 65, .ref 66, .ref 67, .int (iZ en), .ref 68, .ref 69, .ref 70]))) (F1 : h[52]? = some (.inl (1, 1600, .inl tx))) (rmn : (0 ≤ mn ∧ mn ≤ 200)) (rkt : (0 ≤ kt ∧ kt ≤ 12)) (rbs : (0 ≤ bs ∧ bs ≤ 1400)) (ree : (0 ≤ ee ∧ ee ≤ 200)) (rpa : (0 ≤ pa ∧ pa ≤ 200)) (rfu : (-9 ≤ fu ∧ fu ≤ 200)) (rst : (0 ≤ st ∧ st ≤ 200)) (rso : (0 ≤ so ∧ so ≤ 5)) (rva : (-100 ≤ va ∧ va ≤ 3000)) (red : (0 ≤ ed ∧ ed ≤ 200)) (rcm : (0 ≤ cm ∧ cm ≤ 256)) (ra : (0 ≤ a ∧ a ≤ 255)) (rx : (0 ≤ x ∧ x ≤ 255)) (rp : (0 ≤ p ∧ p ≤ 255)) (rdn : (0 ≤ dn ∧ dn ≤ 5000)) (rtk : (0 ≤ tk ∧ tk ≤ 200)) (rie : (0 ≤ ie ∧ ie ≤ 1)) (ren : (0 ≤ en ∧ en ≤ 12)) (r1 : 0 ≤ x1 ∧ x1 ≤ 200) (r2 : 0 ≤ x2 ∧ x2 ≤ 200) (hB : okB tx) (h12 : x1 < x2) (hc : ∀ j : Int, x1 ≤ j → j < x2 → 97 ≤ hb tx (bs + j) ∧ hb tx (bs + j) ≤ 122) (k : Q (some (.int (iZ (wdx (fun j => hb tx (bs + j)) x1 (x2 - x1))))) h) : Go l mX9_wordOf 0 [some (.ref 50), some (.int (iZ x1)), some (.int (iZ x2)), none, none, none] [] h Q := by
  refine g_lconst (v := iL 0) 1 dX9_wordOf_0 (by decide +kernel) rfl ?_
  refine g_lstore_n (L1 := [some (.ref 50), some (.int (iZ x1)), some (.int (iZ x2)), some (.long (iL (0))), none, none]) 2 dX9_wordOf_1 (by decide) rfl rfl rfl ?_
  refine g_iload_n 3 dX9_wordOf_2 rfl rfl ?_
  refine g_istore (L1 := [some (.ref 50), some (.int (iZ x1)), some (.int (iZ x2)), some (.long (iL (0))), none, some (.int (iZ x1))]) 5 dX9_wordOf_3 (by decide) rfl rfl rfl ?_
  refine f_woL F0 F1 rmn rkt rbs ree rpa rfu rst rso rva red rcm ra rx rp rdn rtk rie ren r1 r2 hB h12 hc k _ _ x1 rfl (by omega) (by rw [show (x1 - x1).toNat = 0 by omega]; rfl)
