theorem wlL_9 : Cond.methodLink R_law 9 yX8_init ∈ gw := (gw_of (List.mem_append_right _ (List.mem_of_getElem? (i := 18) (by decide +kernel))) (by decide +kernel))
theorem wlL_15 : Cond.methodLink R_law 15 yX8_type ∈ gw := (gw_of (List.mem_append_right _ (List.mem_of_getElem? (i := 205) (by decide +kernel))) (by decide +kernel))
theorem wlL_20 : Cond.methodLink R_law 20 yX8_clear ∈ gw := (gw_of (List.mem_append_right _ (List.mem_of_getElem? (i := 213) (by decide +kernel))) (by decide +kernel))
theorem wlL_25 : Cond.methodLink R_law 25 yX8_text ∈ gw := (gw_of (List.mem_append_right _ (List.mem_of_getElem? (i := 217) (by decide +kernel))) (by decide +kernel))
theorem wlL_30 : Cond.methodLink R_law 30 yX8_read ∈ gw := (gw_of (List.mem_append_right _ (List.mem_of_getElem? (i := 234) (by decide +kernel))) (by decide +kernel))
theorem wlL_35 : Cond.methodLink R_law 35 yX8_pairs ∈ gw := (gw_of (List.mem_append_right _ (List.mem_of_getElem? (i := 239) (by decide +kernel))) (by decide +kernel))
theorem wlL_39 : Cond.methodLink R_law 39 yX8_named ∈ gw := (gw_of (List.mem_append_right _ (List.mem_of_getElem? (i := 431) (by decide +kernel))) (by decide +kernel))
theorem wlL_43 : Cond.methodLink R_law 43 yX8_build ∈ gw := (gw_of (List.mem_append_right _ (List.mem_of_getElem? (i := 435) (by decide +kernel))) (by decide +kernel))
theorem wlL_47 : Cond.methodLink R_law 47 yX8_tool ∈ gw := (gw_of (List.mem_append_right _ (List.mem_of_getElem? (i := 474) (by decide +kernel))) (by decide +kernel))
theorem wlL_51 : Cond.methodLink R_law 51 yX8_code ∈ gw := (gw_of (List.mem_append_right _ (List.mem_of_getElem? (i := 478) (by decide +kernel))) (by decide +kernel))
theorem wlL_56 : Cond.methodLink R_law 56 yX8_run ∈ gw := (gw_of (List.mem_append_right _ (List.mem_of_getElem? (i := 484) (by decide +kernel))) (by decide +kernel))
theorem wlL_60 : Cond.methodLink R_law 60 yX8_ran ∈ gw := (gw_of (List.mem_append_right _ (List.mem_of_getElem? (i := 489) (by decide +kernel))) (by decide +kernel))
theorem wlL_64 : Cond.methodLink R_law 64 yX8_tape ∈ gw := (gw_of (List.mem_append_right _ (List.mem_of_getElem? (i := 493) (by decide +kernel))) (by decide +kernel))
theorem wlL_68 : Cond.methodLink R_law 68 yX8_rebuilt ∈ gw := (gw_of (List.mem_append_right _ (List.mem_of_getElem? (i := 501) (by decide +kernel))) (by decide +kernel))
theorem wlL_72 : Cond.methodLink R_law 72 yX8_stale ∈ gw := (gw_of (List.mem_append_right _ (List.mem_of_getElem? (i := 517) (by decide +kernel))) (by decide +kernel))
theorem wlL_76 : Cond.methodLink R_law 76 yX8_settles ∈ gw := (gw_of (List.mem_append_right _ (List.mem_of_getElem? (i := 531) (by decide +kernel))) (by decide +kernel))
theorem wlL_80 : Cond.methodLink R_law 80 yX8_round ∈ gw := (gw_of (List.mem_append_right _ (List.mem_of_getElem? (i := 535) (by decide +kernel))) (by decide +kernel))
theorem wlL_84 : Cond.methodLink R_law 84 yX8_hides ∈ gw := (gw_of (List.mem_append_right _ (List.mem_of_getElem? (i := 543) (by decide +kernel))) (by decide +kernel))
theorem wlL_88 : Cond.methodLink R_law 88 yX8_check ∈ gw := (gw_of (List.mem_append_right _ (List.mem_of_getElem? (i := 547) (by decide +kernel))) (by decide +kernel))
theorem wlL_92 : Cond.methodLink R_law 92 yX8_chain ∈ gw := (gw_of (List.mem_append_right _ (List.mem_of_getElem? (i := 551) (by decide +kernel))) (by decide +kernel))
theorem wlL_96 : Cond.methodLink R_law 96 yX8_sealed ∈ gw := (gw_of (List.mem_append_right _ (List.mem_of_getElem? (i := 563) (by decide +kernel))) (by decide +kernel))
theorem wlL_100 : Cond.methodLink R_law 100 yX8_least ∈ gw := (gw_of (List.mem_append_right _ (List.mem_of_getElem? (i := 575) (by decide +kernel))) (by decide +kernel))
theorem wlL_104 : Cond.methodLink R_law 104 yX8_same ∈ gw := (gw_of (List.mem_append_right _ (List.mem_of_getElem? (i := 579) (by decide +kernel))) (by decide +kernel))
theorem wlL_108 : Cond.methodLink R_law 108 yX8_edition ∈ gw := (gw_of (List.mem_append_right _ (List.mem_of_getElem? (i := 583) (by decide +kernel))) (by decide +kernel))
theorem wlL_112 : Cond.methodLink R_law 112 yX8_ladder ∈ gw := (gw_of (List.mem_append_right _ (List.mem_of_getElem? (i := 592) (by decide +kernel))) (by decide +kernel))
theorem wlL_116 : Cond.methodLink R_law 116 yX8_needed ∈ gw := (gw_of (List.mem_append_right _ (List.mem_of_getElem? (i := 617) (by decide +kernel))) (by decide +kernel))
theorem wlL_120 : Cond.methodLink R_law 120 yX8_weight ∈ gw := (gw_of (List.mem_append_right _ (List.mem_of_getElem? (i := 621) (by decide +kernel))) (by decide +kernel))
theorem wlL_124 : Cond.methodLink R_law 124 yX8_count ∈ gw := (gw_of (List.mem_append_right _ (List.mem_of_getElem? (i := 658) (by decide +kernel))) (by decide +kernel))
theorem wlL_128 : Cond.methodLink R_law 128 yX8_trace ∈ gw := (gw_of (List.mem_append_right _ (List.mem_of_getElem? (i := 670) (by decide +kernel))) (by decide +kernel))
theorem wlL_12 : Cond.methodLink R_law 12 yX9_init ∈ gw := (gw_of (List.mem_append_right _ (List.mem_of_getElem? (i := 676) (by decide +kernel))) (by decide +kernel))
theorem wlL_19 : Cond.methodLink R_law 19 yX9_type ∈ gw := (gw_of (List.mem_append_right _ (List.mem_of_getElem? (i := 798) (by decide +kernel))) (by decide +kernel))
theorem wlL_24 : Cond.methodLink R_law 24 yX9_clear ∈ gw := (gw_of (List.mem_append_right _ (List.mem_of_getElem? (i := 806) (by decide +kernel))) (by decide +kernel))
theorem wlL_29 : Cond.methodLink R_law 29 yX9_text ∈ gw := (gw_of (List.mem_append_right _ (List.mem_of_getElem? (i := 810) (by decide +kernel))) (by decide +kernel))
theorem wlL_34 : Cond.methodLink R_law 34 yX9_read ∈ gw := (gw_of (List.mem_append_right _ (List.mem_of_getElem? (i := 817) (by decide +kernel))) (by decide +kernel))
theorem wlL_38 : Cond.methodLink R_law 38 yX9_pairs ∈ gw := (gw_of (List.mem_append_right _ (List.mem_of_getElem? (i := 821) (by decide +kernel))) (by decide +kernel))
theorem wlL_42 : Cond.methodLink R_law 42 yX9_named ∈ gw := (gw_of (List.mem_append_right _ (List.mem_of_getElem? (i := 890) (by decide +kernel))) (by decide +kernel))
theorem wlL_50 : Cond.methodLink R_law 50 yX9_tool ∈ gw := (gw_of (List.mem_append_right _ (List.mem_of_getElem? (i := 894) (by decide +kernel))) (by decide +kernel))
theorem wlL_55 : Cond.methodLink R_law 55 yX9_code ∈ gw := (gw_of (List.mem_append_right _ (List.mem_of_getElem? (i := 902) (by decide +kernel))) (by decide +kernel))
theorem wlL_59 : Cond.methodLink R_law 59 yX9_run ∈ gw := (gw_of (List.mem_append_right _ (List.mem_of_getElem? (i := 906) (by decide +kernel))) (by decide +kernel))
theorem wlL_63 : Cond.methodLink R_law 63 yX9_ran ∈ gw := (gw_of (List.mem_append_right _ (List.mem_of_getElem? (i := 918) (by decide +kernel))) (by decide +kernel))
theorem wlL_67 : Cond.methodLink R_law 67 yX9_tape ∈ gw := (gw_of (List.mem_append_right _ (List.mem_of_getElem? (i := 922) (by decide +kernel))) (by decide +kernel))
theorem wlL_46 : Cond.methodLink R_law 46 yX9_build ∈ gw := (gw_of (List.mem_append_right _ (List.mem_of_getElem? (i := 926) (by decide +kernel))) (by decide +kernel))
theorem wlL_71 : Cond.methodLink R_law 71 yX9_rebuilt ∈ gw := (gw_of (List.mem_append_right _ (List.mem_of_getElem? (i := 938) (by decide +kernel))) (by decide +kernel))
theorem wlL_75 : Cond.methodLink R_law 75 yX9_stale ∈ gw := (gw_of (List.mem_append_right _ (List.mem_of_getElem? (i := 950) (by decide +kernel))) (by decide +kernel))
theorem wlL_79 : Cond.methodLink R_law 79 yX9_settles ∈ gw := (gw_of (List.mem_append_right _ (List.mem_of_getElem? (i := 954) (by decide +kernel))) (by decide +kernel))
theorem wlL_83 : Cond.methodLink R_law 83 yX9_round ∈ gw := (gw_of (List.mem_append_right _ (List.mem_of_getElem? (i := 958) (by decide +kernel))) (by decide +kernel))
theorem wlL_87 : Cond.methodLink R_law 87 yX9_hides ∈ gw := (gw_of (List.mem_append_right _ (List.mem_of_getElem? (i := 966) (by decide +kernel))) (by decide +kernel))
theorem wlL_91 : Cond.methodLink R_law 91 yX9_check ∈ gw := (gw_of (List.mem_append_right _ (List.mem_of_getElem? (i := 970) (by decide +kernel))) (by decide +kernel))
theorem wlL_95 : Cond.methodLink R_law 95 yX9_chain ∈ gw := (gw_of (List.mem_append_right _ (List.mem_of_getElem? (i := 974) (by decide +kernel))) (by decide +kernel))
theorem wlL_99 : Cond.methodLink R_law 99 yX9_sealed ∈ gw := (gw_of (List.mem_append_right _ (List.mem_of_getElem? (i := 982) (by decide +kernel))) (by decide +kernel))
theorem wlL_103 : Cond.methodLink R_law 103 yX9_least ∈ gw := (gw_of (List.mem_append_right _ (List.mem_of_getElem? (i := 995) (by decide +kernel))) (by decide +kernel))
theorem wlL_107 : Cond.methodLink R_law 107 yX9_same ∈ gw := (gw_of (List.mem_append_right _ (List.mem_of_getElem? (i := 999) (by decide +kernel))) (by decide +kernel))
theorem wlL_111 : Cond.methodLink R_law 111 yX9_edition ∈ gw := (gw_of (List.mem_append_right _ (List.mem_of_getElem? (i := 1003) (by decide +kernel))) (by decide +kernel))
theorem wlL_115 : Cond.methodLink R_law 115 yX9_ladder ∈ gw := (gw_of (List.mem_append_right _ (List.mem_of_getElem? (i := 1008) (by decide +kernel))) (by decide +kernel))
theorem wlL_119 : Cond.methodLink R_law 119 yX9_needed ∈ gw := (gw_of (List.mem_append_right _ (List.mem_of_getElem? (i := 1020) (by decide +kernel))) (by decide +kernel))
theorem wlL_123 : Cond.methodLink R_law 123 yX9_weight ∈ gw := (gw_of (List.mem_append_right _ (List.mem_of_getElem? (i := 1024) (by decide +kernel))) (by decide +kernel))
theorem wlL_127 : Cond.methodLink R_law 127 yX9_count ∈ gw := (gw_of (List.mem_append_right _ (List.mem_of_getElem? (i := 1033) (by decide +kernel))) (by decide +kernel))
theorem wlL_132 : Cond.methodLink R_law 132 yX9_trace ∈ gw := (gw_of (List.mem_append_right _ (List.mem_of_getElem? (i := 1037) (by decide +kernel))) (by decide +kernel))
theorem fnL_7 : FN R_law 7 7 [.null, .null, .null, .int 0, .null, .null, .null, .null, .null, .null, .long 0] := ⟨RX8, TX8, 11, tyX8, rfl, inwX8, tyX8_ok, (gw_of (List.mem_append_right _ (List.mem_of_getElem? (i := 16) (by decide +kernel))) (by decide +kernel)), (gw_of (List.mem_append_right _ (List.mem_of_getElem? (i := 17) (by decide +kernel))) (by decide +kernel)), (gw_of (List.mem_append_right _ (List.mem_of_getElem? (i := 1) (by decide +kernel))) (by decide +kernel)), by decide +kernel, rfl, fun _ => rfl⟩
theorem fnL_10 : FN R_law 10 8 [.long 0, .null, .int 0, .null, .null, .int 0, .null, .null, .null, .null, .null, .null, .null, .int 0, .int 0, .int 0, .int 0, .int 0, .int 0, .int 0, .int 0, .null, .null, .null, .null, .int 0, .int 0, .int 0, .int 0, .int 0, .int 0, .int 0, .null, .null, .null, .int 0, .null, .null, .null] := ⟨RX9, TX9, 39, tyX9, rfl, inwX9, tyX9_ok, (gw_of (List.mem_append_right _ (List.mem_of_getElem? (i := 674) (by decide +kernel))) (by decide +kernel)), (gw_of (List.mem_append_right _ (List.mem_of_getElem? (i := 675) (by decide +kernel))) (by decide +kernel)), (gw_of (List.mem_append_right _ (List.mem_of_getElem? (i := 10) (by decide +kernel))) (by decide +kernel)), by decide +kernel, rfl, fun _ => rfl⟩
theorem wnL : Cond.constantLong R_law 13 4294967295 ∈ gw := (gw_of (List.mem_append_right _ (List.mem_of_getElem? (i := 1041) (by decide +kernel))) (by decide +kernel))
theorem waoText : Cond.arrayOver (.object "LadderForge$Text") ∈ lw_tbl := List.mem_append_right _ (List.mem_of_getElem? (i := 41) (by decide +kernel))
theorem waoTool : Cond.arrayOver (.object "LadderForge$Tool") ∈ lw_tbl := List.mem_append_right _ (List.mem_of_getElem? (i := 43) (by decide +kernel))
theorem winsX0 : Cond.instantiable RX0 4 ∈ gw := (gw_of (List.mem_append_right _ (List.mem_of_getElem? (i := 54) (by decide +kernel))) (by decide +kernel))
theorem winsX1 : Cond.instantiable RX1 4 ∈ gw := (gw_of (List.mem_append_right _ (List.mem_of_getElem? (i := 152) (by decide +kernel))) (by decide +kernel))
theorem winsX2 : Cond.instantiable RX2 9 ∈ gw := (gw_of (List.mem_append_right _ (List.mem_of_getElem? (i := 109) (by decide +kernel))) (by decide +kernel))
theorem winsX4 : Cond.instantiable RX4 5 ∈ gw := (gw_of (List.mem_append_right _ (List.mem_of_getElem? (i := 89) (by decide +kernel))) (by decide +kernel))
theorem winsX5 : Cond.instantiable RX5 1 ∈ gw := (gw_of (List.mem_append_right _ (List.mem_of_getElem? (i := 45) (by decide +kernel))) (by decide +kernel))
theorem winsX6 : Cond.instantiable RX6 2 ∈ gw := (gw_of (List.mem_append_right _ (List.mem_of_getElem? (i := 25) (by decide +kernel))) (by decide +kernel))
theorem winsX7 : Cond.instantiable RX7 5 ∈ gw := (gw_of (List.mem_append_right _ (List.mem_of_getElem? (i := 392) (by decide +kernel))) (by decide +kernel))
theorem winsX8 : Cond.instantiable RX8 11 ∈ gw := (gw_of (List.mem_append_right _ (List.mem_of_getElem? (i := 17) (by decide +kernel))) (by decide +kernel))
theorem winsX9 : Cond.instantiable RX9 39 ∈ gw := (gw_of (List.mem_append_right _ (List.mem_of_getElem? (i := 675) (by decide +kernel))) (by decide +kernel))
theorem nw_sub : ∀ w ∈ nw, w ∈ lw_tbl ∧ w.onTables = true := by
  intro w hw
  simp only [nw, List.mem_cons, List.not_mem_nil, or_false] at hw
  rcases hw with rfl | rfl | rfl | rfl | rfl | rfl | rfl | rfl | rfl | rfl | rfl | rfl | rfl | rfl | rfl | rfl | rfl | rfl | rfl | rfl | rfl | rfl | rfl | rfl | rfl | rfl | rfl | rfl
  · exact ⟨List.mem_append_right _ (List.mem_of_getElem? (i := 26) (by decide +kernel)), rfl⟩
  · exact ⟨List.mem_append_right _ (List.mem_of_getElem? (i := 32) (by decide +kernel)), rfl⟩
  · exact ⟨List.mem_append_right _ (List.mem_of_getElem? (i := 33) (by decide +kernel)), rfl⟩
  · exact ⟨List.mem_append_right _ (List.mem_of_getElem? (i := 34) (by decide +kernel)), rfl⟩
  · exact ⟨List.mem_append_right _ (List.mem_of_getElem? (i := 46) (by decide +kernel)), rfl⟩
  · exact ⟨List.mem_append_right _ (List.mem_of_getElem? (i := 49) (by decide +kernel)), rfl⟩
  · exact ⟨List.mem_append_right _ (List.mem_of_getElem? (i := 66) (by decide +kernel)), rfl⟩
  · exact ⟨List.mem_append_right _ (List.mem_of_getElem? (i := 67) (by decide +kernel)), rfl⟩
  · exact ⟨List.mem_append_right _ (List.mem_of_getElem? (i := 68) (by decide +kernel)), rfl⟩
  · exact ⟨List.mem_append_right _ (List.mem_of_getElem? (i := 69) (by decide +kernel)), rfl⟩
  · exact ⟨List.mem_append_right _ (List.mem_of_getElem? (i := 90) (by decide +kernel)), rfl⟩
  · exact ⟨List.mem_append_right _ (List.mem_of_getElem? (i := 93) (by decide +kernel)), rfl⟩
  · exact ⟨List.mem_append_right _ (List.mem_of_getElem? (i := 110) (by decide +kernel)), rfl⟩
  · exact ⟨List.mem_append_right _ (List.mem_of_getElem? (i := 118) (by decide +kernel)), rfl⟩
  · exact ⟨List.mem_append_right _ (List.mem_of_getElem? (i := 120) (by decide +kernel)), rfl⟩
  · exact ⟨List.mem_append_right _ (List.mem_of_getElem? (i := 122) (by decide +kernel)), rfl⟩
  · exact ⟨List.mem_append_right _ (List.mem_of_getElem? (i := 124) (by decide +kernel)), rfl⟩
  · exact ⟨List.mem_append_right _ (List.mem_of_getElem? (i := 127) (by decide +kernel)), rfl⟩
  · exact ⟨List.mem_append_right _ (List.mem_of_getElem? (i := 129) (by decide +kernel)), rfl⟩
  · exact ⟨List.mem_append_right _ (List.mem_of_getElem? (i := 131) (by decide +kernel)), rfl⟩
  · exact ⟨List.mem_append_right _ (List.mem_of_getElem? (i := 153) (by decide +kernel)), rfl⟩
  · exact ⟨List.mem_append_right _ (List.mem_of_getElem? (i := 161) (by decide +kernel)), rfl⟩
  · exact ⟨List.mem_append_right _ (List.mem_of_getElem? (i := 252) (by decide +kernel)), rfl⟩
  · exact ⟨List.mem_append_right _ (List.mem_of_getElem? (i := 410) (by decide +kernel)), rfl⟩
  · exact ⟨List.mem_append_right _ (List.mem_of_getElem? (i := 412) (by decide +kernel)), rfl⟩
  · exact ⟨List.mem_append_right _ (List.mem_of_getElem? (i := 414) (by decide +kernel)), rfl⟩
  · exact ⟨List.mem_append_right _ (List.mem_of_getElem? (i := 416) (by decide +kernel)), rfl⟩
  · exact ⟨List.mem_append_right _ (List.mem_of_getElem? (i := 418) (by decide +kernel)), rfl⟩
