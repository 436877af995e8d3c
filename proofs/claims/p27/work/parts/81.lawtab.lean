set_option maxRecDepth 50000 in
theorem wlL_9 : Cond.methodLink R_law 9 yX8_init ∈ gw := (gw_of (List.mem_append_right _ (List.mem_append_left _ (List.mem_of_getElem? (i := 18) rfl))) (by decide +kernel))
set_option maxRecDepth 50000 in
theorem wlL_15 : Cond.methodLink R_law 15 yX8_type ∈ gw := (gw_of (List.mem_append_right _ (List.mem_append_left _ (List.mem_of_getElem? (i := 205) rfl))) (by decide +kernel))
set_option maxRecDepth 50000 in
theorem wlL_20 : Cond.methodLink R_law 20 yX8_clear ∈ gw := (gw_of (List.mem_append_right _ (List.mem_append_left _ (List.mem_of_getElem? (i := 213) rfl))) (by decide +kernel))
set_option maxRecDepth 50000 in
theorem wlL_25 : Cond.methodLink R_law 25 yX8_text ∈ gw := (gw_of (List.mem_append_right _ (List.mem_append_left _ (List.mem_of_getElem? (i := 217) rfl))) (by decide +kernel))
set_option maxRecDepth 50000 in
theorem wlL_30 : Cond.methodLink R_law 30 yX8_read ∈ gw := (gw_of (List.mem_append_right _ (List.mem_append_left _ (List.mem_of_getElem? (i := 234) rfl))) (by decide +kernel))
set_option maxRecDepth 50000 in
theorem wlL_35 : Cond.methodLink R_law 35 yX8_pairs ∈ gw := (gw_of (List.mem_append_right _ (List.mem_append_left _ (List.mem_of_getElem? (i := 239) rfl))) (by decide +kernel))
set_option maxRecDepth 50000 in
theorem wlL_39 : Cond.methodLink R_law 39 yX8_named ∈ gw := (gw_of (List.mem_append_right _ (List.mem_append_right _ (List.mem_append_left _ (List.mem_of_getElem? (i := 191) rfl)))) (by decide +kernel))
set_option maxRecDepth 50000 in
theorem wlL_43 : Cond.methodLink R_law 43 yX8_build ∈ gw := (gw_of (List.mem_append_right _ (List.mem_append_right _ (List.mem_append_left _ (List.mem_of_getElem? (i := 195) rfl)))) (by decide +kernel))
set_option maxRecDepth 50000 in
theorem wlL_47 : Cond.methodLink R_law 47 yX8_tool ∈ gw := (gw_of (List.mem_append_right _ (List.mem_append_right _ (List.mem_append_left _ (List.mem_of_getElem? (i := 234) rfl)))) (by decide +kernel))
set_option maxRecDepth 50000 in
theorem wlL_51 : Cond.methodLink R_law 51 yX8_code ∈ gw := (gw_of (List.mem_append_right _ (List.mem_append_right _ (List.mem_append_left _ (List.mem_of_getElem? (i := 238) rfl)))) (by decide +kernel))
set_option maxRecDepth 50000 in
theorem wlL_56 : Cond.methodLink R_law 56 yX8_run ∈ gw := (gw_of (List.mem_append_right _ (List.mem_append_right _ (List.mem_append_right _ (List.mem_append_left _ (List.mem_of_getElem? (i := 4) rfl))))) (by decide +kernel))
set_option maxRecDepth 50000 in
theorem wlL_60 : Cond.methodLink R_law 60 yX8_ran ∈ gw := (gw_of (List.mem_append_right _ (List.mem_append_right _ (List.mem_append_right _ (List.mem_append_left _ (List.mem_of_getElem? (i := 9) rfl))))) (by decide +kernel))
set_option maxRecDepth 50000 in
theorem wlL_64 : Cond.methodLink R_law 64 yX8_tape ∈ gw := (gw_of (List.mem_append_right _ (List.mem_append_right _ (List.mem_append_right _ (List.mem_append_left _ (List.mem_of_getElem? (i := 13) rfl))))) (by decide +kernel))
set_option maxRecDepth 50000 in
theorem wlL_68 : Cond.methodLink R_law 68 yX8_rebuilt ∈ gw := (gw_of (List.mem_append_right _ (List.mem_append_right _ (List.mem_append_right _ (List.mem_append_left _ (List.mem_of_getElem? (i := 21) rfl))))) (by decide +kernel))
set_option maxRecDepth 50000 in
theorem wlL_72 : Cond.methodLink R_law 72 yX8_stale ∈ gw := (gw_of (List.mem_append_right _ (List.mem_append_right _ (List.mem_append_right _ (List.mem_append_left _ (List.mem_of_getElem? (i := 37) rfl))))) (by decide +kernel))
set_option maxRecDepth 50000 in
theorem wlL_76 : Cond.methodLink R_law 76 yX8_settles ∈ gw := (gw_of (List.mem_append_right _ (List.mem_append_right _ (List.mem_append_right _ (List.mem_append_left _ (List.mem_of_getElem? (i := 51) rfl))))) (by decide +kernel))
set_option maxRecDepth 50000 in
theorem wlL_80 : Cond.methodLink R_law 80 yX8_round ∈ gw := (gw_of (List.mem_append_right _ (List.mem_append_right _ (List.mem_append_right _ (List.mem_append_left _ (List.mem_of_getElem? (i := 55) rfl))))) (by decide +kernel))
set_option maxRecDepth 50000 in
theorem wlL_84 : Cond.methodLink R_law 84 yX8_hides ∈ gw := (gw_of (List.mem_append_right _ (List.mem_append_right _ (List.mem_append_right _ (List.mem_append_left _ (List.mem_of_getElem? (i := 63) rfl))))) (by decide +kernel))
set_option maxRecDepth 50000 in
theorem wlL_88 : Cond.methodLink R_law 88 yX8_check ∈ gw := (gw_of (List.mem_append_right _ (List.mem_append_right _ (List.mem_append_right _ (List.mem_append_left _ (List.mem_of_getElem? (i := 67) rfl))))) (by decide +kernel))
set_option maxRecDepth 50000 in
theorem wlL_92 : Cond.methodLink R_law 92 yX8_chain ∈ gw := (gw_of (List.mem_append_right _ (List.mem_append_right _ (List.mem_append_right _ (List.mem_append_left _ (List.mem_of_getElem? (i := 71) rfl))))) (by decide +kernel))
set_option maxRecDepth 50000 in
theorem wlL_96 : Cond.methodLink R_law 96 yX8_sealed ∈ gw := (gw_of (List.mem_append_right _ (List.mem_append_right _ (List.mem_append_right _ (List.mem_append_left _ (List.mem_of_getElem? (i := 83) rfl))))) (by decide +kernel))
set_option maxRecDepth 50000 in
theorem wlL_100 : Cond.methodLink R_law 100 yX8_least ∈ gw := (gw_of (List.mem_append_right _ (List.mem_append_right _ (List.mem_append_right _ (List.mem_append_left _ (List.mem_of_getElem? (i := 95) rfl))))) (by decide +kernel))
set_option maxRecDepth 50000 in
theorem wlL_104 : Cond.methodLink R_law 104 yX8_same ∈ gw := (gw_of (List.mem_append_right _ (List.mem_append_right _ (List.mem_append_right _ (List.mem_append_left _ (List.mem_of_getElem? (i := 99) rfl))))) (by decide +kernel))
set_option maxRecDepth 50000 in
theorem wlL_108 : Cond.methodLink R_law 108 yX8_edition ∈ gw := (gw_of (List.mem_append_right _ (List.mem_append_right _ (List.mem_append_right _ (List.mem_append_left _ (List.mem_of_getElem? (i := 103) rfl))))) (by decide +kernel))
set_option maxRecDepth 50000 in
theorem wlL_112 : Cond.methodLink R_law 112 yX8_ladder ∈ gw := (gw_of (List.mem_append_right _ (List.mem_append_right _ (List.mem_append_right _ (List.mem_append_left _ (List.mem_of_getElem? (i := 112) rfl))))) (by decide +kernel))
set_option maxRecDepth 50000 in
theorem wlL_116 : Cond.methodLink R_law 116 yX8_needed ∈ gw := (gw_of (List.mem_append_right _ (List.mem_append_right _ (List.mem_append_right _ (List.mem_append_left _ (List.mem_of_getElem? (i := 137) rfl))))) (by decide +kernel))
set_option maxRecDepth 50000 in
theorem wlL_120 : Cond.methodLink R_law 120 yX8_weight ∈ gw := (gw_of (List.mem_append_right _ (List.mem_append_right _ (List.mem_append_right _ (List.mem_append_left _ (List.mem_of_getElem? (i := 141) rfl))))) (by decide +kernel))
set_option maxRecDepth 50000 in
theorem wlL_124 : Cond.methodLink R_law 124 yX8_count ∈ gw := (gw_of (List.mem_append_right _ (List.mem_append_right _ (List.mem_append_right _ (List.mem_append_left _ (List.mem_of_getElem? (i := 178) rfl))))) (by decide +kernel))
set_option maxRecDepth 50000 in
theorem wlL_128 : Cond.methodLink R_law 128 yX8_trace ∈ gw := (gw_of (List.mem_append_right _ (List.mem_append_right _ (List.mem_append_right _ (List.mem_append_left _ (List.mem_of_getElem? (i := 190) rfl))))) (by decide +kernel))
set_option maxRecDepth 50000 in
theorem wlL_12 : Cond.methodLink R_law 12 yX9_init ∈ gw := (gw_of (List.mem_append_right _ (List.mem_append_right _ (List.mem_append_right _ (List.mem_append_left _ (List.mem_of_getElem? (i := 196) rfl))))) (by decide +kernel))
set_option maxRecDepth 50000 in
theorem wlL_19 : Cond.methodLink R_law 19 yX9_type ∈ gw := (gw_of (List.mem_append_right _ (List.mem_append_right _ (List.mem_append_right _ (List.mem_append_right _ (List.mem_append_left _ (List.mem_of_getElem? (i := 78) rfl)))))) (by decide +kernel))
set_option maxRecDepth 50000 in
theorem wlL_24 : Cond.methodLink R_law 24 yX9_clear ∈ gw := (gw_of (List.mem_append_right _ (List.mem_append_right _ (List.mem_append_right _ (List.mem_append_right _ (List.mem_append_left _ (List.mem_of_getElem? (i := 86) rfl)))))) (by decide +kernel))
set_option maxRecDepth 50000 in
theorem wlL_29 : Cond.methodLink R_law 29 yX9_text ∈ gw := (gw_of (List.mem_append_right _ (List.mem_append_right _ (List.mem_append_right _ (List.mem_append_right _ (List.mem_append_left _ (List.mem_of_getElem? (i := 90) rfl)))))) (by decide +kernel))
set_option maxRecDepth 50000 in
theorem wlL_34 : Cond.methodLink R_law 34 yX9_read ∈ gw := (gw_of (List.mem_append_right _ (List.mem_append_right _ (List.mem_append_right _ (List.mem_append_right _ (List.mem_append_left _ (List.mem_of_getElem? (i := 97) rfl)))))) (by decide +kernel))
set_option maxRecDepth 50000 in
theorem wlL_38 : Cond.methodLink R_law 38 yX9_pairs ∈ gw := (gw_of (List.mem_append_right _ (List.mem_append_right _ (List.mem_append_right _ (List.mem_append_right _ (List.mem_append_left _ (List.mem_of_getElem? (i := 101) rfl)))))) (by decide +kernel))
set_option maxRecDepth 50000 in
theorem wlL_42 : Cond.methodLink R_law 42 yX9_named ∈ gw := (gw_of (List.mem_append_right _ (List.mem_append_right _ (List.mem_append_right _ (List.mem_append_right _ (List.mem_append_left _ (List.mem_of_getElem? (i := 170) rfl)))))) (by decide +kernel))
set_option maxRecDepth 50000 in
theorem wlL_50 : Cond.methodLink R_law 50 yX9_tool ∈ gw := (gw_of (List.mem_append_right _ (List.mem_append_right _ (List.mem_append_right _ (List.mem_append_right _ (List.mem_append_left _ (List.mem_of_getElem? (i := 174) rfl)))))) (by decide +kernel))
set_option maxRecDepth 50000 in
theorem wlL_55 : Cond.methodLink R_law 55 yX9_code ∈ gw := (gw_of (List.mem_append_right _ (List.mem_append_right _ (List.mem_append_right _ (List.mem_append_right _ (List.mem_append_left _ (List.mem_of_getElem? (i := 182) rfl)))))) (by decide +kernel))
set_option maxRecDepth 50000 in
theorem wlL_59 : Cond.methodLink R_law 59 yX9_run ∈ gw := (gw_of (List.mem_append_right _ (List.mem_append_right _ (List.mem_append_right _ (List.mem_append_right _ (List.mem_append_left _ (List.mem_of_getElem? (i := 186) rfl)))))) (by decide +kernel))
set_option maxRecDepth 50000 in
theorem wlL_63 : Cond.methodLink R_law 63 yX9_ran ∈ gw := (gw_of (List.mem_append_right _ (List.mem_append_right _ (List.mem_append_right _ (List.mem_append_right _ (List.mem_append_left _ (List.mem_of_getElem? (i := 198) rfl)))))) (by decide +kernel))
set_option maxRecDepth 50000 in
theorem wlL_67 : Cond.methodLink R_law 67 yX9_tape ∈ gw := (gw_of (List.mem_append_right _ (List.mem_append_right _ (List.mem_append_right _ (List.mem_append_right _ (List.mem_append_left _ (List.mem_of_getElem? (i := 202) rfl)))))) (by decide +kernel))
set_option maxRecDepth 50000 in
theorem wlL_46 : Cond.methodLink R_law 46 yX9_build ∈ gw := (gw_of (List.mem_append_right _ (List.mem_append_right _ (List.mem_append_right _ (List.mem_append_right _ (List.mem_append_left _ (List.mem_of_getElem? (i := 206) rfl)))))) (by decide +kernel))
set_option maxRecDepth 50000 in
theorem wlL_71 : Cond.methodLink R_law 71 yX9_rebuilt ∈ gw := (gw_of (List.mem_append_right _ (List.mem_append_right _ (List.mem_append_right _ (List.mem_append_right _ (List.mem_append_left _ (List.mem_of_getElem? (i := 218) rfl)))))) (by decide +kernel))
set_option maxRecDepth 50000 in
theorem wlL_75 : Cond.methodLink R_law 75 yX9_stale ∈ gw := (gw_of (List.mem_append_right _ (List.mem_append_right _ (List.mem_append_right _ (List.mem_append_right _ (List.mem_append_left _ (List.mem_of_getElem? (i := 230) rfl)))))) (by decide +kernel))
set_option maxRecDepth 50000 in
theorem wlL_79 : Cond.methodLink R_law 79 yX9_settles ∈ gw := (gw_of (List.mem_append_right _ (List.mem_append_right _ (List.mem_append_right _ (List.mem_append_right _ (List.mem_append_left _ (List.mem_of_getElem? (i := 234) rfl)))))) (by decide +kernel))
set_option maxRecDepth 50000 in
theorem wlL_83 : Cond.methodLink R_law 83 yX9_round ∈ gw := (gw_of (List.mem_append_right _ (List.mem_append_right _ (List.mem_append_right _ (List.mem_append_right _ (List.mem_append_left _ (List.mem_of_getElem? (i := 238) rfl)))))) (by decide +kernel))
set_option maxRecDepth 50000 in
theorem wlL_87 : Cond.methodLink R_law 87 yX9_hides ∈ gw := (gw_of (List.mem_append_right _ (List.mem_append_right _ (List.mem_append_right _ (List.mem_append_right _ (List.mem_append_right _ (List.mem_of_getElem? (i := 6) rfl)))))) (by decide +kernel))
set_option maxRecDepth 50000 in
theorem wlL_91 : Cond.methodLink R_law 91 yX9_check ∈ gw := (gw_of (List.mem_append_right _ (List.mem_append_right _ (List.mem_append_right _ (List.mem_append_right _ (List.mem_append_right _ (List.mem_of_getElem? (i := 10) rfl)))))) (by decide +kernel))
set_option maxRecDepth 50000 in
theorem wlL_95 : Cond.methodLink R_law 95 yX9_chain ∈ gw := (gw_of (List.mem_append_right _ (List.mem_append_right _ (List.mem_append_right _ (List.mem_append_right _ (List.mem_append_right _ (List.mem_of_getElem? (i := 14) rfl)))))) (by decide +kernel))
set_option maxRecDepth 50000 in
theorem wlL_99 : Cond.methodLink R_law 99 yX9_sealed ∈ gw := (gw_of (List.mem_append_right _ (List.mem_append_right _ (List.mem_append_right _ (List.mem_append_right _ (List.mem_append_right _ (List.mem_of_getElem? (i := 22) rfl)))))) (by decide +kernel))
set_option maxRecDepth 50000 in
theorem wlL_103 : Cond.methodLink R_law 103 yX9_least ∈ gw := (gw_of (List.mem_append_right _ (List.mem_append_right _ (List.mem_append_right _ (List.mem_append_right _ (List.mem_append_right _ (List.mem_of_getElem? (i := 35) rfl)))))) (by decide +kernel))
set_option maxRecDepth 50000 in
theorem wlL_107 : Cond.methodLink R_law 107 yX9_same ∈ gw := (gw_of (List.mem_append_right _ (List.mem_append_right _ (List.mem_append_right _ (List.mem_append_right _ (List.mem_append_right _ (List.mem_of_getElem? (i := 39) rfl)))))) (by decide +kernel))
set_option maxRecDepth 50000 in
theorem wlL_111 : Cond.methodLink R_law 111 yX9_edition ∈ gw := (gw_of (List.mem_append_right _ (List.mem_append_right _ (List.mem_append_right _ (List.mem_append_right _ (List.mem_append_right _ (List.mem_of_getElem? (i := 43) rfl)))))) (by decide +kernel))
set_option maxRecDepth 50000 in
theorem wlL_115 : Cond.methodLink R_law 115 yX9_ladder ∈ gw := (gw_of (List.mem_append_right _ (List.mem_append_right _ (List.mem_append_right _ (List.mem_append_right _ (List.mem_append_right _ (List.mem_of_getElem? (i := 48) rfl)))))) (by decide +kernel))
set_option maxRecDepth 50000 in
theorem wlL_119 : Cond.methodLink R_law 119 yX9_needed ∈ gw := (gw_of (List.mem_append_right _ (List.mem_append_right _ (List.mem_append_right _ (List.mem_append_right _ (List.mem_append_right _ (List.mem_of_getElem? (i := 60) rfl)))))) (by decide +kernel))
set_option maxRecDepth 50000 in
theorem wlL_123 : Cond.methodLink R_law 123 yX9_weight ∈ gw := (gw_of (List.mem_append_right _ (List.mem_append_right _ (List.mem_append_right _ (List.mem_append_right _ (List.mem_append_right _ (List.mem_of_getElem? (i := 64) rfl)))))) (by decide +kernel))
set_option maxRecDepth 50000 in
theorem wlL_127 : Cond.methodLink R_law 127 yX9_count ∈ gw := (gw_of (List.mem_append_right _ (List.mem_append_right _ (List.mem_append_right _ (List.mem_append_right _ (List.mem_append_right _ (List.mem_of_getElem? (i := 73) rfl)))))) (by decide +kernel))
set_option maxRecDepth 50000 in
theorem wlL_132 : Cond.methodLink R_law 132 yX9_trace ∈ gw := (gw_of (List.mem_append_right _ (List.mem_append_right _ (List.mem_append_right _ (List.mem_append_right _ (List.mem_append_right _ (List.mem_of_getElem? (i := 77) rfl)))))) (by decide +kernel))
set_option maxRecDepth 50000 in
theorem fnL_7 : FN R_law 7 7 [.null, .null, .null, .int 0, .null, .null, .null, .null, .null, .null, .long 0] := ⟨RX8, TX8, 11, tyX8, rfl, inwX8, tyX8_ok, (gw_of (List.mem_append_right _ (List.mem_append_left _ (List.mem_of_getElem? (i := 16) rfl))) (by decide +kernel)), (gw_of (List.mem_append_right _ (List.mem_append_left _ (List.mem_of_getElem? (i := 17) rfl))) (by decide +kernel)), (gw_of (List.mem_append_right _ (List.mem_append_left _ (List.mem_of_getElem? (i := 1) rfl))) (by decide +kernel)), by decide +kernel, rfl, fun _ => rfl⟩
set_option maxRecDepth 50000 in
theorem fnL_10 : FN R_law 10 8 [.long 0, .null, .int 0, .null, .null, .int 0, .null, .null, .null, .null, .null, .null, .null, .int 0, .int 0, .int 0, .int 0, .int 0, .int 0, .int 0, .int 0, .null, .null, .null, .null, .int 0, .int 0, .int 0, .int 0, .int 0, .int 0, .int 0, .null, .null, .null, .int 0, .null, .null, .null] := ⟨RX9, TX9, 39, tyX9, rfl, inwX9, tyX9_ok, (gw_of (List.mem_append_right _ (List.mem_append_right _ (List.mem_append_right _ (List.mem_append_left _ (List.mem_of_getElem? (i := 194) rfl))))) (by decide +kernel)), (gw_of (List.mem_append_right _ (List.mem_append_right _ (List.mem_append_right _ (List.mem_append_left _ (List.mem_of_getElem? (i := 195) rfl))))) (by decide +kernel)), (gw_of (List.mem_append_right _ (List.mem_append_left _ (List.mem_of_getElem? (i := 10) rfl))) (by decide +kernel)), by decide +kernel, rfl, fun _ => rfl⟩
set_option maxRecDepth 50000 in
theorem wnL : Cond.constantLong R_law 13 4294967295 ∈ gw := (gw_of (List.mem_append_right _ (List.mem_append_right _ (List.mem_append_right _ (List.mem_append_right _ (List.mem_append_right _ (List.mem_of_getElem? (i := 81) rfl)))))) (by decide +kernel))
set_option maxRecDepth 50000 in
theorem waoText : Cond.arrayOver (.object "LadderForge$Text") ∈ lw_tbl := List.mem_append_right _ (List.mem_append_left _ (List.mem_of_getElem? (i := 41) rfl))
set_option maxRecDepth 50000 in
theorem waoTool : Cond.arrayOver (.object "LadderForge$Tool") ∈ lw_tbl := List.mem_append_right _ (List.mem_append_left _ (List.mem_of_getElem? (i := 43) rfl))
set_option maxRecDepth 50000 in
theorem winsX0 : Cond.instantiable RX0 4 ∈ gw := (gw_of (List.mem_append_right _ (List.mem_append_left _ (List.mem_of_getElem? (i := 54) rfl))) (by decide +kernel))
set_option maxRecDepth 50000 in
theorem winsX1 : Cond.instantiable RX1 4 ∈ gw := (gw_of (List.mem_append_right _ (List.mem_append_left _ (List.mem_of_getElem? (i := 152) rfl))) (by decide +kernel))
set_option maxRecDepth 50000 in
theorem winsX2 : Cond.instantiable RX2 9 ∈ gw := (gw_of (List.mem_append_right _ (List.mem_append_left _ (List.mem_of_getElem? (i := 109) rfl))) (by decide +kernel))
set_option maxRecDepth 50000 in
theorem winsX4 : Cond.instantiable RX4 5 ∈ gw := (gw_of (List.mem_append_right _ (List.mem_append_left _ (List.mem_of_getElem? (i := 89) rfl))) (by decide +kernel))
set_option maxRecDepth 50000 in
theorem winsX5 : Cond.instantiable RX5 1 ∈ gw := (gw_of (List.mem_append_right _ (List.mem_append_left _ (List.mem_of_getElem? (i := 45) rfl))) (by decide +kernel))
set_option maxRecDepth 50000 in
theorem winsX6 : Cond.instantiable RX6 2 ∈ gw := (gw_of (List.mem_append_right _ (List.mem_append_left _ (List.mem_of_getElem? (i := 25) rfl))) (by decide +kernel))
set_option maxRecDepth 50000 in
theorem winsX7 : Cond.instantiable RX7 5 ∈ gw := (gw_of (List.mem_append_right _ (List.mem_append_right _ (List.mem_append_left _ (List.mem_of_getElem? (i := 152) rfl)))) (by decide +kernel))
set_option maxRecDepth 50000 in
theorem winsX8 : Cond.instantiable RX8 11 ∈ gw := (gw_of (List.mem_append_right _ (List.mem_append_left _ (List.mem_of_getElem? (i := 17) rfl))) (by decide +kernel))
set_option maxRecDepth 50000 in
theorem winsX9 : Cond.instantiable RX9 39 ∈ gw := (gw_of (List.mem_append_right _ (List.mem_append_right _ (List.mem_append_right _ (List.mem_append_left _ (List.mem_of_getElem? (i := 195) rfl))))) (by decide +kernel))
set_option maxRecDepth 50000 in
theorem nw_sub : ∀ w ∈ nw, w ∈ lw_tbl ∧ w.onTables = true := by
  intro w hw
  simp only [nw, List.mem_cons, List.not_mem_nil, or_false] at hw
  rcases hw with rfl | rfl | rfl | rfl | rfl | rfl | rfl | rfl | rfl | rfl | rfl | rfl | rfl | rfl | rfl | rfl | rfl | rfl | rfl | rfl | rfl | rfl | rfl | rfl | rfl | rfl | rfl | rfl
  · exact ⟨List.mem_append_right _ (List.mem_append_left _ (List.mem_of_getElem? (i := 26) rfl)), rfl⟩
  · exact ⟨List.mem_append_right _ (List.mem_append_left _ (List.mem_of_getElem? (i := 32) rfl)), rfl⟩
  · exact ⟨List.mem_append_right _ (List.mem_append_left _ (List.mem_of_getElem? (i := 33) rfl)), rfl⟩
  · exact ⟨List.mem_append_right _ (List.mem_append_left _ (List.mem_of_getElem? (i := 34) rfl)), rfl⟩
  · exact ⟨List.mem_append_right _ (List.mem_append_left _ (List.mem_of_getElem? (i := 46) rfl)), rfl⟩
  · exact ⟨List.mem_append_right _ (List.mem_append_left _ (List.mem_of_getElem? (i := 49) rfl)), rfl⟩
  · exact ⟨List.mem_append_right _ (List.mem_append_left _ (List.mem_of_getElem? (i := 66) rfl)), rfl⟩
  · exact ⟨List.mem_append_right _ (List.mem_append_left _ (List.mem_of_getElem? (i := 67) rfl)), rfl⟩
  · exact ⟨List.mem_append_right _ (List.mem_append_left _ (List.mem_of_getElem? (i := 68) rfl)), rfl⟩
  · exact ⟨List.mem_append_right _ (List.mem_append_left _ (List.mem_of_getElem? (i := 69) rfl)), rfl⟩
  · exact ⟨List.mem_append_right _ (List.mem_append_left _ (List.mem_of_getElem? (i := 90) rfl)), rfl⟩
  · exact ⟨List.mem_append_right _ (List.mem_append_left _ (List.mem_of_getElem? (i := 93) rfl)), rfl⟩
  · exact ⟨List.mem_append_right _ (List.mem_append_left _ (List.mem_of_getElem? (i := 110) rfl)), rfl⟩
  · exact ⟨List.mem_append_right _ (List.mem_append_left _ (List.mem_of_getElem? (i := 118) rfl)), rfl⟩
  · exact ⟨List.mem_append_right _ (List.mem_append_left _ (List.mem_of_getElem? (i := 120) rfl)), rfl⟩
  · exact ⟨List.mem_append_right _ (List.mem_append_left _ (List.mem_of_getElem? (i := 122) rfl)), rfl⟩
  · exact ⟨List.mem_append_right _ (List.mem_append_left _ (List.mem_of_getElem? (i := 124) rfl)), rfl⟩
  · exact ⟨List.mem_append_right _ (List.mem_append_left _ (List.mem_of_getElem? (i := 127) rfl)), rfl⟩
  · exact ⟨List.mem_append_right _ (List.mem_append_left _ (List.mem_of_getElem? (i := 129) rfl)), rfl⟩
  · exact ⟨List.mem_append_right _ (List.mem_append_left _ (List.mem_of_getElem? (i := 131) rfl)), rfl⟩
  · exact ⟨List.mem_append_right _ (List.mem_append_left _ (List.mem_of_getElem? (i := 153) rfl)), rfl⟩
  · exact ⟨List.mem_append_right _ (List.mem_append_left _ (List.mem_of_getElem? (i := 161) rfl)), rfl⟩
  · exact ⟨List.mem_append_right _ (List.mem_append_right _ (List.mem_append_left _ (List.mem_of_getElem? (i := 12) rfl))), rfl⟩
  · exact ⟨List.mem_append_right _ (List.mem_append_right _ (List.mem_append_left _ (List.mem_of_getElem? (i := 170) rfl))), rfl⟩
  · exact ⟨List.mem_append_right _ (List.mem_append_right _ (List.mem_append_left _ (List.mem_of_getElem? (i := 172) rfl))), rfl⟩
  · exact ⟨List.mem_append_right _ (List.mem_append_right _ (List.mem_append_left _ (List.mem_of_getElem? (i := 174) rfl))), rfl⟩
  · exact ⟨List.mem_append_right _ (List.mem_append_right _ (List.mem_append_left _ (List.mem_of_getElem? (i := 176) rfl))), rfl⟩
  · exact ⟨List.mem_append_right _ (List.mem_append_right _ (List.mem_append_left _ (List.mem_of_getElem? (i := 178) rfl))), rfl⟩
