set_option maxRecDepth 100000 in
theorem w_hb {l : Launch} {h : MH} {Q : Option Value → MH → Prop} {i j : Int} (ri : rg i) (rj : rg j) (k : ∀ (r : Int), (r = 0 ∨ r = 1) → Q (some (.int (iZ r))) h) : Go l mX8_hasBit 0 [some (.int (iZ i)), some (.int (iZ j))] [] h Q := by
  refine g_iload_n 1 dX8_hasBit_0 rfl rfl ?_
  refine g_iload_n 2 dX8_hasBit_1 rfl rfl ?_
  refine g_ishr 3 dX8_hasBit_2 rfl ?_
  refine Go.genZ (fun z1 rz1 => ?_)
  refine g_iconst (v := iZ (1)) 4 dX8_hasBit_3 rfl rfl ?_
  refine g_iand 5 dX8_hasBit_4 rfl ?_
  refine Go.genZ (fun z2 rz2 => ?_)
  refine g_iconst (v := iZ (1)) 6 dX8_hasBit_5 rfl rfl ?_
  refine g_icZ_ne 13 9 dX8_hasBit_6 rfl rfl rz2 (by decide) (fun c3 => ?_) (fun c3 => ?_)
  · refine g_iconst (v := iZ (0)) 14 dX8_hasBit_13 rfl rfl ?_
    refine g_zret rfl z01_0 dX8_hasBit_14 ?_
    exact k (0) (Or.inl rfl)
  · refine g_iconst (v := iZ (1)) 10 dX8_hasBit_9 rfl rfl ?_
    refine g_goto 14 dX8_hasBit_10 rfl ?_
    refine g_zret rfl z01_1 dX8_hasBit_14 ?_
    exact k (1) (Or.inr rfl)
