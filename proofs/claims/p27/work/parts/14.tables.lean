set_option maxRecDepth 20000 in
theorem inwX0 : ∀ w ∈ u_ws RX0 TX0 4, w ∈ gw := by decide +kernel
set_option maxRecDepth 20000 in
theorem inwX1 : ∀ w ∈ u_ws RX1 TX1 4, w ∈ gw := by decide +kernel
set_option maxRecDepth 20000 in
theorem inwX2 : ∀ w ∈ u_ws RX2 TX2 9, w ∈ gw := by decide +kernel
set_option maxRecDepth 20000 in
theorem inwX4 : ∀ w ∈ u_ws RX4 TX4 5, w ∈ gw := by decide +kernel
set_option maxRecDepth 20000 in
theorem inwX5 : ∀ w ∈ u_ws RX5 TX5 1, w ∈ gw := by decide +kernel
set_option maxRecDepth 20000 in
theorem inwX6 : ∀ w ∈ u_ws RX6 TX6 2, w ∈ gw := by decide +kernel
set_option maxRecDepth 20000 in
theorem inwX7 : ∀ w ∈ u_ws RX7 TX7 5, w ∈ gw := by decide +kernel
set_option maxRecDepth 20000 in
theorem inwX8 : ∀ w ∈ u_ws RX8 TX8 11, w ∈ gw := by decide +kernel
set_option maxRecDepth 20000 in
theorem inwX9 : ∀ w ∈ u_ws RX9 TX9 39, w ∈ gw := by decide +kernel
def mX0_init : MD := (yX0_init, cX0_init, 2, (none : Option Jvm.ClassFile.FieldType), 1, 24)
set_option maxRecDepth 50000 in
theorem mwX0_init : MW mX0_init := ⟨(gw_of (List.mem_append_right _ (List.mem_append_left _ (List.mem_of_getElem? (i := 57) rfl))) rfl), (gw_of (List.mem_append_right _ (List.mem_append_left _ (List.mem_of_getElem? (i := 5) rfl))) rfl), by decide +kernel, by decide +kernel, by decide +kernel⟩
set_option maxRecDepth 50000 in
theorem wiX0_init : Cond.instanceMethod yX0_init ∈ gw := (gw_of (List.mem_append_right _ (List.mem_append_left _ (List.mem_of_getElem? (i := 56) rfl))) rfl)
def mX0_add : MD := (yX0_add, cX0_add, 3, (some .boolean), 0, 0)
set_option maxRecDepth 50000 in
theorem mwX0_add : MW mX0_add := ⟨(gw_of (List.mem_append_right _ (List.mem_append_right _ (List.mem_append_left _ (List.mem_of_getElem? (i := 56) rfl)))) rfl), (gw_of (List.mem_append_right _ (List.mem_append_left _ (List.mem_of_getElem? (i := 5) rfl))) rfl), by decide +kernel, by decide +kernel, by decide +kernel⟩
set_option maxRecDepth 50000 in
theorem wiX0_add : Cond.instanceMethod yX0_add ∈ gw := (gw_of (List.mem_append_right _ (List.mem_append_right _ (List.mem_append_left _ (List.mem_of_getElem? (i := 54) rfl)))) rfl)
set_option maxRecDepth 50000 in
theorem wsX0_add : Cond.selects RX0 yX0_add yX0_add ∈ gw := (gw_of (List.mem_append_right _ (List.mem_append_right _ (List.mem_append_left _ (List.mem_of_getElem? (i := 55) rfl)))) rfl)
def mX0_at : MD := (yX0_at, cX0_at, 2, (some .int), 0, 0)
set_option maxRecDepth 50000 in
theorem mwX0_at : MW mX0_at := ⟨(gw_of (List.mem_append_right _ (List.mem_append_right _ (List.mem_append_left _ (List.mem_of_getElem? (i := 162) rfl)))) rfl), (gw_of (List.mem_append_right _ (List.mem_append_left _ (List.mem_of_getElem? (i := 5) rfl))) rfl), by decide +kernel, by decide +kernel, by decide +kernel⟩
set_option maxRecDepth 50000 in
theorem wiX0_at : Cond.instanceMethod yX0_at ∈ gw := (gw_of (List.mem_append_right _ (List.mem_append_right _ (List.mem_append_left _ (List.mem_of_getElem? (i := 160) rfl)))) rfl)
set_option maxRecDepth 50000 in
theorem wsX0_at : Cond.selects RX0 yX0_at yX0_at ∈ gw := (gw_of (List.mem_append_right _ (List.mem_append_right _ (List.mem_append_left _ (List.mem_of_getElem? (i := 161) rfl)))) rfl)
def mX0_ledAt : MD := (yX0_ledAt, cX0_ledAt, 2, (some .int), 0, 0)
set_option maxRecDepth 50000 in
theorem mwX0_ledAt : MW mX0_ledAt := ⟨(gw_of (List.mem_append_right _ (List.mem_append_right _ (List.mem_append_left _ (List.mem_of_getElem? (i := 134) rfl)))) rfl), (gw_of (List.mem_append_right _ (List.mem_append_left _ (List.mem_of_getElem? (i := 5) rfl))) rfl), by decide +kernel, by decide +kernel, by decide +kernel⟩
set_option maxRecDepth 50000 in
theorem wiX0_ledAt : Cond.instanceMethod yX0_ledAt ∈ gw := (gw_of (List.mem_append_right _ (List.mem_append_right _ (List.mem_append_left _ (List.mem_of_getElem? (i := 132) rfl)))) rfl)
set_option maxRecDepth 50000 in
theorem wsX0_ledAt : Cond.selects RX0 yX0_ledAt yX0_ledAt ∈ gw := (gw_of (List.mem_append_right _ (List.mem_append_right _ (List.mem_append_left _ (List.mem_of_getElem? (i := 133) rfl)))) rfl)
def mX0_change : MD := (yX0_change, cX0_change, 3, (none : Option Jvm.ClassFile.FieldType), 0, 0)
set_option maxRecDepth 50000 in
theorem mwX0_change : MW mX0_change := ⟨(gw_of (List.mem_append_right _ (List.mem_append_right _ (List.mem_append_left _ (List.mem_of_getElem? (i := 138) rfl)))) rfl), (gw_of (List.mem_append_right _ (List.mem_append_left _ (List.mem_of_getElem? (i := 5) rfl))) rfl), by decide +kernel, by decide +kernel, by decide +kernel⟩
set_option maxRecDepth 50000 in
theorem wiX0_change : Cond.instanceMethod yX0_change ∈ gw := (gw_of (List.mem_append_right _ (List.mem_append_right _ (List.mem_append_left _ (List.mem_of_getElem? (i := 136) rfl)))) rfl)
set_option maxRecDepth 50000 in
theorem wsX0_change : Cond.selects RX0 yX0_change yX0_change ∈ gw := (gw_of (List.mem_append_right _ (List.mem_append_right _ (List.mem_append_left _ (List.mem_of_getElem? (i := 137) rfl)))) rfl)
def mX0_unlike : MD := (yX0_unlike, cX0_unlike, 4, (some .int), 1, 24)
set_option maxRecDepth 50000 in
theorem mwX0_unlike : MW mX0_unlike := ⟨(gw_of (List.mem_append_right _ (List.mem_append_right _ (List.mem_append_right _ (List.mem_append_left _ (List.mem_of_getElem? (i := 36) rfl))))) rfl), (gw_of (List.mem_append_right _ (List.mem_append_left _ (List.mem_of_getElem? (i := 5) rfl))) rfl), by decide +kernel, by decide +kernel, by decide +kernel⟩
set_option maxRecDepth 50000 in
theorem wiX0_unlike : Cond.instanceMethod yX0_unlike ∈ gw := (gw_of (List.mem_append_right _ (List.mem_append_right _ (List.mem_append_right _ (List.mem_append_left _ (List.mem_of_getElem? (i := 34) rfl))))) rfl)
set_option maxRecDepth 50000 in
theorem wsX0_unlike : Cond.selects RX0 yX0_unlike yX0_unlike ∈ gw := (gw_of (List.mem_append_right _ (List.mem_append_right _ (List.mem_append_right _ (List.mem_append_left _ (List.mem_of_getElem? (i := 35) rfl))))) rfl)
def mX0_beyondOrders : MD := (yX0_beyondOrders, cX0_beyondOrders, 3, (some .int), 1, 21)
set_option maxRecDepth 50000 in
theorem mwX0_beyondOrders : MW mX0_beyondOrders := ⟨(gw_of (List.mem_append_right _ (List.mem_append_right _ (List.mem_append_right _ (List.mem_append_left _ (List.mem_of_getElem? (i := 162) rfl))))) rfl), (gw_of (List.mem_append_right _ (List.mem_append_left _ (List.mem_of_getElem? (i := 5) rfl))) rfl), by decide +kernel, by decide +kernel, by decide +kernel⟩
set_option maxRecDepth 50000 in
theorem wiX0_beyondOrders : Cond.instanceMethod yX0_beyondOrders ∈ gw := (gw_of (List.mem_append_right _ (List.mem_append_right _ (List.mem_append_right _ (List.mem_append_left _ (List.mem_of_getElem? (i := 160) rfl))))) rfl)
set_option maxRecDepth 50000 in
theorem wsX0_beyondOrders : Cond.selects RX0 yX0_beyondOrders yX0_beyondOrders ∈ gw := (gw_of (List.mem_append_right _ (List.mem_append_right _ (List.mem_append_right _ (List.mem_append_left _ (List.mem_of_getElem? (i := 161) rfl))))) rfl)
def mX0_copied : MD := (yX0_copied, cX0_copied, 3, (some (.object "LadderForge$Code")), 2, 45)
set_option maxRecDepth 50000 in
theorem mwX0_copied : MW mX0_copied := ⟨(gw_of (List.mem_append_right _ (List.mem_append_right _ (List.mem_append_left _ (List.mem_of_getElem? (i := 156) rfl)))) rfl), (gw_of (List.mem_append_right _ (List.mem_append_left _ (List.mem_of_getElem? (i := 5) rfl))) rfl), by decide +kernel, by decide +kernel, by decide +kernel⟩
set_option maxRecDepth 50000 in
theorem wiX0_copied : Cond.instanceMethod yX0_copied ∈ gw := (gw_of (List.mem_append_right _ (List.mem_append_right _ (List.mem_append_left _ (List.mem_of_getElem? (i := 154) rfl)))) rfl)
set_option maxRecDepth 50000 in
theorem wsX0_copied : Cond.selects RX0 yX0_copied yX0_copied ∈ gw := (gw_of (List.mem_append_right _ (List.mem_append_right _ (List.mem_append_left _ (List.mem_of_getElem? (i := 155) rfl)))) rfl)
def mX1_init : MD := (yX1_init, cX1_init, 1, (none : Option Jvm.ClassFile.FieldType), 1, 24)
set_option maxRecDepth 50000 in
theorem mwX1_init : MW mX1_init := ⟨(gw_of (List.mem_append_right _ (List.mem_append_left _ (List.mem_of_getElem? (i := 155) rfl))) rfl), (gw_of (List.mem_append_right _ (List.mem_append_left _ (List.mem_of_getElem? (i := 9) rfl))) rfl), by decide +kernel, by decide +kernel, by decide +kernel⟩
set_option maxRecDepth 50000 in
theorem wiX1_init : Cond.instanceMethod yX1_init ∈ gw := (gw_of (List.mem_append_right _ (List.mem_append_left _ (List.mem_of_getElem? (i := 154) rfl))) rfl)
def mX1_add : MD := (yX1_add, cX1_add, 3, (some .int), 0, 0)
set_option maxRecDepth 50000 in
theorem mwX1_add : MW mX1_add := ⟨(gw_of (List.mem_append_right _ (List.mem_append_right _ (List.mem_append_right _ (List.mem_append_left _ (List.mem_of_getElem? (i := 111) rfl))))) rfl), (gw_of (List.mem_append_right _ (List.mem_append_left _ (List.mem_of_getElem? (i := 9) rfl))) rfl), by decide +kernel, by decide +kernel, by decide +kernel⟩
set_option maxRecDepth 50000 in
theorem wiX1_add : Cond.instanceMethod yX1_add ∈ gw := (gw_of (List.mem_append_right _ (List.mem_append_right _ (List.mem_append_right _ (List.mem_append_left _ (List.mem_of_getElem? (i := 109) rfl))))) rfl)
set_option maxRecDepth 50000 in
theorem wsX1_add : Cond.selects RX1 yX1_add yX1_add ∈ gw := (gw_of (List.mem_append_right _ (List.mem_append_right _ (List.mem_append_right _ (List.mem_append_left _ (List.mem_of_getElem? (i := 110) rfl))))) rfl)
def mX1_has : MD := (yX1_has, cX1_has, 2, (some .boolean), 0, 0)
set_option maxRecDepth 50000 in
theorem mwX1_has : MW mX1_has := ⟨(gw_of (List.mem_append_right _ (List.mem_append_right _ (List.mem_append_right _ (List.mem_append_left _ (List.mem_of_getElem? (i := 119) rfl))))) rfl), (gw_of (List.mem_append_right _ (List.mem_append_left _ (List.mem_of_getElem? (i := 9) rfl))) rfl), by decide +kernel, by decide +kernel, by decide +kernel⟩
set_option maxRecDepth 50000 in
theorem wiX1_has : Cond.instanceMethod yX1_has ∈ gw := (gw_of (List.mem_append_right _ (List.mem_append_right _ (List.mem_append_right _ (List.mem_append_left _ (List.mem_of_getElem? (i := 117) rfl))))) rfl)
set_option maxRecDepth 50000 in
theorem wsX1_has : Cond.selects RX1 yX1_has yX1_has ∈ gw := (gw_of (List.mem_append_right _ (List.mem_append_right _ (List.mem_append_right _ (List.mem_append_left _ (List.mem_of_getElem? (i := 118) rfl))))) rfl)
def mX1_firstBuilt : MD := (yX1_firstBuilt, cX1_firstBuilt, 4, (some .int), 1, 21)
set_option maxRecDepth 50000 in
theorem mwX1_firstBuilt : MW mX1_firstBuilt := ⟨(gw_of (List.mem_append_right _ (List.mem_append_right _ (List.mem_append_right _ (List.mem_append_left _ (List.mem_of_getElem? (i := 132) rfl))))) rfl), (gw_of (List.mem_append_right _ (List.mem_append_left _ (List.mem_of_getElem? (i := 9) rfl))) rfl), by decide +kernel, by decide +kernel, by decide +kernel⟩
set_option maxRecDepth 50000 in
theorem wiX1_firstBuilt : Cond.instanceMethod yX1_firstBuilt ∈ gw := (gw_of (List.mem_append_right _ (List.mem_append_right _ (List.mem_append_right _ (List.mem_append_left _ (List.mem_of_getElem? (i := 131) rfl))))) rfl)
set_option maxRecDepth 50000 in
theorem wsX1_firstBuilt : Cond.selects RX1 yX1_firstBuilt yX1_firstBuilt ∈ gw := (gw_of (List.mem_append_left _ (List.mem_of_getElem? (i := 26) rfl)) rfl)
def mX1_reachBack : MD := (yX1_reachBack, cX1_reachBack, 3, (none : Option Jvm.ClassFile.FieldType), 2, 44)
set_option maxRecDepth 50000 in
theorem mwX1_reachBack : MW mX1_reachBack := ⟨(gw_of (List.mem_append_right _ (List.mem_append_right _ (List.mem_append_right _ (List.mem_append_left _ (List.mem_of_getElem? (i := 128) rfl))))) rfl), (gw_of (List.mem_append_right _ (List.mem_append_left _ (List.mem_of_getElem? (i := 9) rfl))) rfl), by decide +kernel, by decide +kernel, by decide +kernel⟩
set_option maxRecDepth 50000 in
theorem wiX1_reachBack : Cond.instanceMethod yX1_reachBack ∈ gw := (gw_of (List.mem_append_right _ (List.mem_append_right _ (List.mem_append_right _ (List.mem_append_left _ (List.mem_of_getElem? (i := 127) rfl))))) rfl)
set_option maxRecDepth 50000 in
theorem wsX1_reachBack : Cond.selects RX1 yX1_reachBack yX1_reachBack ∈ gw := (gw_of (List.mem_append_left _ (List.mem_of_getElem? (i := 25) rfl)) rfl)
def mX1_fewest : MD := (yX1_fewest, cX1_fewest, 6, (some .int), 3, 66)
set_option maxRecDepth 50000 in
theorem mwX1_fewest : MW mX1_fewest := ⟨(gw_of (List.mem_append_right _ (List.mem_append_right _ (List.mem_append_right _ (List.mem_append_left _ (List.mem_of_getElem? (i := 123) rfl))))) rfl), (gw_of (List.mem_append_right _ (List.mem_append_left _ (List.mem_of_getElem? (i := 9) rfl))) rfl), by decide +kernel, by decide +kernel, by decide +kernel⟩
set_option maxRecDepth 50000 in
theorem wiX1_fewest : Cond.instanceMethod yX1_fewest ∈ gw := (gw_of (List.mem_append_right _ (List.mem_append_right _ (List.mem_append_right _ (List.mem_append_left _ (List.mem_of_getElem? (i := 121) rfl))))) rfl)
set_option maxRecDepth 50000 in
theorem wsX1_fewest : Cond.selects RX1 yX1_fewest yX1_fewest ∈ gw := (gw_of (List.mem_append_right _ (List.mem_append_right _ (List.mem_append_right _ (List.mem_append_left _ (List.mem_of_getElem? (i := 122) rfl))))) rfl)
def mX1_step : MD := (yX1_step, cX1_step, 5, (some .int), 2, 44)
set_option maxRecDepth 50000 in
theorem mwX1_step : MW mX1_step := ⟨(gw_of (List.mem_append_right _ (List.mem_append_right _ (List.mem_append_right _ (List.mem_append_left _ (List.mem_of_getElem? (i := 136) rfl))))) rfl), (gw_of (List.mem_append_right _ (List.mem_append_left _ (List.mem_of_getElem? (i := 9) rfl))) rfl), by decide +kernel, by decide +kernel, by decide +kernel⟩
set_option maxRecDepth 50000 in
theorem wiX1_step : Cond.instanceMethod yX1_step ∈ gw := (gw_of (List.mem_append_right _ (List.mem_append_right _ (List.mem_append_right _ (List.mem_append_left _ (List.mem_of_getElem? (i := 134) rfl))))) rfl)
set_option maxRecDepth 50000 in
theorem wsX1_step : Cond.selects RX1 yX1_step yX1_step ∈ gw := (gw_of (List.mem_append_right _ (List.mem_append_right _ (List.mem_append_right _ (List.mem_append_left _ (List.mem_of_getElem? (i := 135) rfl))))) rfl)
def mX2_init : MD := (yX2_init, cX2_init, 1, (none : Option Jvm.ClassFile.FieldType), 2, 45)
set_option maxRecDepth 50000 in
theorem mwX2_init : MW mX2_init := ⟨(gw_of (List.mem_append_right _ (List.mem_append_left _ (List.mem_of_getElem? (i := 112) rfl))) rfl), (gw_of (List.mem_append_right _ (List.mem_append_left _ (List.mem_of_getElem? (i := 8) rfl))) rfl), by decide +kernel, by decide +kernel, by decide +kernel⟩
set_option maxRecDepth 50000 in
theorem wiX2_init : Cond.instanceMethod yX2_init ∈ gw := (gw_of (List.mem_append_right _ (List.mem_append_left _ (List.mem_of_getElem? (i := 111) rfl))) rfl)
def mX2_hasNumber : MD := (yX2_hasNumber, cX2_hasNumber, 1, (some .boolean), 0, 0)
set_option maxRecDepth 50000 in
theorem mwX2_hasNumber : MW mX2_hasNumber := ⟨(gw_of (List.mem_append_right _ (List.mem_append_right _ (List.mem_append_left _ (List.mem_of_getElem? (i := 126) rfl)))) rfl), (gw_of (List.mem_append_right _ (List.mem_append_left _ (List.mem_of_getElem? (i := 8) rfl))) rfl), by decide +kernel, by decide +kernel, by decide +kernel⟩
set_option maxRecDepth 50000 in
theorem wtX2_hasNumber : Cond.static yX2_hasNumber ∈ gw := (gw_of (List.mem_append_right _ (List.mem_append_right _ (List.mem_append_left _ (List.mem_of_getElem? (i := 125) rfl)))) rfl)
def mX2_memoryAt : MD := (yX2_memoryAt, cX2_memoryAt, 2, (some .int), 0, 0)
set_option maxRecDepth 50000 in
theorem mwX2_memoryAt : MW mX2_memoryAt := ⟨(gw_of (List.mem_append_right _ (List.mem_append_right _ (List.mem_append_right _ (List.mem_append_left _ (List.mem_of_getElem? (i := 20) rfl))))) rfl), (gw_of (List.mem_append_right _ (List.mem_append_left _ (List.mem_of_getElem? (i := 8) rfl))) rfl), by decide +kernel, by decide +kernel, by decide +kernel⟩
set_option maxRecDepth 50000 in
theorem wiX2_memoryAt : Cond.instanceMethod yX2_memoryAt ∈ gw := (gw_of (List.mem_append_right _ (List.mem_append_right _ (List.mem_append_right _ (List.mem_append_left _ (List.mem_of_getElem? (i := 18) rfl))))) rfl)
set_option maxRecDepth 50000 in
theorem wsX2_memoryAt : Cond.selects RX2 yX2_memoryAt yX2_memoryAt ∈ gw := (gw_of (List.mem_append_right _ (List.mem_append_right _ (List.mem_append_right _ (List.mem_append_left _ (List.mem_of_getElem? (i := 19) rfl))))) rfl)
def mX2_load : MD := (yX2_load, cX2_load, 3, (none : Option Jvm.ClassFile.FieldType), 1, 21)
set_option maxRecDepth 50000 in
theorem mwX2_load : MW mX2_load := ⟨(gw_of (List.mem_append_right _ (List.mem_append_right _ (List.mem_append_left _ (List.mem_of_getElem? (i := 214) rfl)))) rfl), (gw_of (List.mem_append_right _ (List.mem_append_left _ (List.mem_of_getElem? (i := 8) rfl))) rfl), by decide +kernel, by decide +kernel, by decide +kernel⟩
set_option maxRecDepth 50000 in
theorem wiX2_load : Cond.instanceMethod yX2_load ∈ gw := (gw_of (List.mem_append_right _ (List.mem_append_right _ (List.mem_append_left _ (List.mem_of_getElem? (i := 213) rfl)))) rfl)
set_option maxRecDepth 50000 in
theorem wsX2_load : Cond.selects RX2 yX2_load yX2_load ∈ gw := (gw_of (List.mem_append_left _ (List.mem_of_getElem? (i := 13) rfl)) rfl)
def mX2_harmOf : MD := (yX2_harmOf, cX2_harmOf, 2, (some .int), 0, 0)
set_option maxRecDepth 50000 in
theorem mwX2_harmOf : MW mX2_harmOf := ⟨(gw_of (List.mem_append_right _ (List.mem_append_right _ (List.mem_append_left _ (List.mem_of_getElem? (i := 219) rfl)))) rfl), (gw_of (List.mem_append_right _ (List.mem_append_left _ (List.mem_of_getElem? (i := 8) rfl))) rfl), by decide +kernel, by decide +kernel, by decide +kernel⟩
set_option maxRecDepth 50000 in
theorem wiX2_harmOf : Cond.instanceMethod yX2_harmOf ∈ gw := (gw_of (List.mem_append_right _ (List.mem_append_right _ (List.mem_append_left _ (List.mem_of_getElem? (i := 218) rfl)))) rfl)
set_option maxRecDepth 50000 in
theorem wsX2_harmOf : Cond.selects RX2 yX2_harmOf yX2_harmOf ∈ gw := (gw_of (List.mem_append_left _ (List.mem_of_getElem? (i := 14) rfl)) rfl)
def mX6_at : MD := (yX6_at, cX6_at, 2, (some .int), 0, 0)
set_option maxRecDepth 50000 in
theorem mwX6_at : MW mX6_at := ⟨(gw_of (List.mem_append_right _ (List.mem_append_left _ (List.mem_of_getElem? (i := 232) rfl))) rfl), (gw_of (List.mem_append_right _ (List.mem_append_left _ (List.mem_of_getElem? (i := 2) rfl))) rfl), by decide +kernel, by decide +kernel, by decide +kernel⟩
set_option maxRecDepth 50000 in
theorem wiX6_at : Cond.instanceMethod yX6_at ∈ gw := (gw_of (List.mem_append_right _ (List.mem_append_left _ (List.mem_of_getElem? (i := 230) rfl))) rfl)
set_option maxRecDepth 50000 in
theorem wsX6_at : Cond.selects RX6 yX6_at yX6_at ∈ gw := (gw_of (List.mem_append_right _ (List.mem_append_left _ (List.mem_of_getElem? (i := 231) rfl))) rfl)
def mX2_take : MD := (yX2_take, cX2_take, 2, (none : Option Jvm.ClassFile.FieldType), 0, 0)
set_option maxRecDepth 50000 in
theorem mwX2_take : MW mX2_take := ⟨(gw_of (List.mem_append_right _ (List.mem_append_right _ (List.mem_append_left _ (List.mem_of_getElem? (i := 229) rfl)))) rfl), (gw_of (List.mem_append_right _ (List.mem_append_left _ (List.mem_of_getElem? (i := 8) rfl))) rfl), by decide +kernel, by decide +kernel, by decide +kernel⟩
set_option maxRecDepth 50000 in
theorem wiX2_take : Cond.instanceMethod yX2_take ∈ gw := (gw_of (List.mem_append_right _ (List.mem_append_right _ (List.mem_append_left _ (List.mem_of_getElem? (i := 228) rfl)))) rfl)
set_option maxRecDepth 50000 in
theorem wsX2_take : Cond.selects RX2 yX2_take yX2_take ∈ gw := (gw_of (List.mem_append_left _ (List.mem_of_getElem? (i := 16) rfl)) rfl)
def mX2_obey : MD := (yX2_obey, cX2_obey, 5, (none : Option Jvm.ClassFile.FieldType), 1, 24)
set_option maxRecDepth 50000 in
theorem mwX2_obey : MW mX2_obey := ⟨(gw_of (List.mem_append_right _ (List.mem_append_right _ (List.mem_append_left _ (List.mem_of_getElem? (i := 223) rfl)))) rfl), (gw_of (List.mem_append_right _ (List.mem_append_left _ (List.mem_of_getElem? (i := 8) rfl))) rfl), by decide +kernel, by decide +kernel, by decide +kernel⟩
set_option maxRecDepth 50000 in
theorem wiX2_obey : Cond.instanceMethod yX2_obey ∈ gw := (gw_of (List.mem_append_right _ (List.mem_append_right _ (List.mem_append_left _ (List.mem_of_getElem? (i := 222) rfl)))) rfl)
set_option maxRecDepth 50000 in
theorem wsX2_obey : Cond.selects RX2 yX2_obey yX2_obey ∈ gw := (gw_of (List.mem_append_left _ (List.mem_of_getElem? (i := 15) rfl)) rfl)
def mX2_goThrough : MD := (yX2_goThrough, cX2_goThrough, 6, (none : Option Jvm.ClassFile.FieldType), 2, 48)
set_option maxRecDepth 50000 in
theorem mwX2_goThrough : MW mX2_goThrough := ⟨(gw_of (List.mem_append_right _ (List.mem_append_right _ (List.mem_append_left _ (List.mem_of_getElem? (i := 210) rfl)))) rfl), (gw_of (List.mem_append_right _ (List.mem_append_left _ (List.mem_of_getElem? (i := 8) rfl))) rfl), by decide +kernel, by decide +kernel, by decide +kernel⟩
set_option maxRecDepth 50000 in
theorem wiX2_goThrough : Cond.instanceMethod yX2_goThrough ∈ gw := (gw_of (List.mem_append_right _ (List.mem_append_right _ (List.mem_append_left _ (List.mem_of_getElem? (i := 208) rfl)))) rfl)
set_option maxRecDepth 50000 in
theorem wsX2_goThrough : Cond.selects RX2 yX2_goThrough yX2_goThrough ∈ gw := (gw_of (List.mem_append_right _ (List.mem_append_right _ (List.mem_append_left _ (List.mem_of_getElem? (i := 209) rfl)))) rfl)
def mX2_builds : MD := (yX2_builds, cX2_builds, 3, (some .boolean), 3, 73)
set_option maxRecDepth 50000 in
theorem mwX2_builds : MW mX2_builds := ⟨(gw_of (List.mem_append_right _ (List.mem_append_right _ (List.mem_append_left _ (List.mem_of_getElem? (i := 206) rfl)))) rfl), (gw_of (List.mem_append_right _ (List.mem_append_left _ (List.mem_of_getElem? (i := 8) rfl))) rfl), by decide +kernel, by decide +kernel, by decide +kernel⟩
set_option maxRecDepth 50000 in
theorem wiX2_builds : Cond.instanceMethod yX2_builds ∈ gw := (gw_of (List.mem_append_right _ (List.mem_append_right _ (List.mem_append_left _ (List.mem_of_getElem? (i := 204) rfl)))) rfl)
set_option maxRecDepth 50000 in
theorem wsX2_builds : Cond.selects RX2 yX2_builds yX2_builds ∈ gw := (gw_of (List.mem_append_right _ (List.mem_append_right _ (List.mem_append_left _ (List.mem_of_getElem? (i := 205) rfl)))) rfl)
def mX3_init : MD := (yX3_init, cX3_init, 1, (none : Option Jvm.ClassFile.FieldType), 2, 45)
set_option maxRecDepth 50000 in
theorem mwX3_init : MW mX3_init := ⟨(gw_of (List.mem_append_right _ (List.mem_append_left _ (List.mem_of_getElem? (i := 51) rfl))) rfl), (gw_of (List.mem_append_right _ (List.mem_append_left _ (List.mem_of_getElem? (i := 3) rfl))) rfl), by decide +kernel, by decide +kernel, by decide +kernel⟩
set_option maxRecDepth 50000 in
theorem wiX3_init : Cond.instanceMethod yX3_init ∈ gw := (gw_of (List.mem_append_right _ (List.mem_append_left _ (List.mem_of_getElem? (i := 50) rfl))) rfl)
def mX4_init : MD := (yX4_init, cX4_init, 1, (none : Option Jvm.ClassFile.FieldType), 3, 65)
set_option maxRecDepth 50000 in
theorem mwX4_init : MW mX4_init := ⟨(gw_of (List.mem_append_right _ (List.mem_append_left _ (List.mem_of_getElem? (i := 92) rfl))) rfl), (gw_of (List.mem_append_right _ (List.mem_append_left _ (List.mem_of_getElem? (i := 7) rfl))) rfl), by decide +kernel, by decide +kernel, by decide +kernel⟩
set_option maxRecDepth 50000 in
theorem wiX4_init : Cond.instanceMethod yX4_init ∈ gw := (gw_of (List.mem_append_right _ (List.mem_append_left _ (List.mem_of_getElem? (i := 91) rfl))) rfl)
def mX4_begin : MD := (yX4_begin, cX4_begin, 2, (none : Option Jvm.ClassFile.FieldType), 0, 0)
set_option maxRecDepth 50000 in
theorem mwX4_begin : MW mX4_begin := ⟨(gw_of (List.mem_append_right _ (List.mem_append_right _ (List.mem_append_left _ (List.mem_of_getElem? (i := 20) rfl)))) rfl), (gw_of (List.mem_append_right _ (List.mem_append_left _ (List.mem_of_getElem? (i := 7) rfl))) rfl), by decide +kernel, by decide +kernel, by decide +kernel⟩
set_option maxRecDepth 50000 in
theorem wiX4_begin : Cond.instanceMethod yX4_begin ∈ gw := (gw_of (List.mem_append_right _ (List.mem_append_right _ (List.mem_append_left _ (List.mem_of_getElem? (i := 19) rfl)))) rfl)
set_option maxRecDepth 50000 in
theorem wsX4_begin : Cond.selects RX4 yX4_begin yX4_begin ∈ gw := (gw_of (List.mem_append_left _ (List.mem_of_getElem? (i := 3) rfl)) rfl)
def mX6_pastGap : MD := (yX6_pastGap, cX6_pastGap, 5, (some .int), 1, 21)
set_option maxRecDepth 50000 in
theorem mwX6_pastGap : MW mX6_pastGap := ⟨(gw_of (List.mem_append_right _ (List.mem_append_right _ (List.mem_append_left _ (List.mem_of_getElem? (i := 24) rfl)))) rfl), (gw_of (List.mem_append_right _ (List.mem_append_left _ (List.mem_of_getElem? (i := 2) rfl))) rfl), by decide +kernel, by decide +kernel, by decide +kernel⟩
set_option maxRecDepth 50000 in
theorem wiX6_pastGap : Cond.instanceMethod yX6_pastGap ∈ gw := (gw_of (List.mem_append_right _ (List.mem_append_right _ (List.mem_append_left _ (List.mem_of_getElem? (i := 22) rfl)))) rfl)
set_option maxRecDepth 50000 in
theorem wsX6_pastGap : Cond.selects RX6 yX6_pastGap yX6_pastGap ∈ gw := (gw_of (List.mem_append_right _ (List.mem_append_right _ (List.mem_append_left _ (List.mem_of_getElem? (i := 23) rfl)))) rfl)
def mX4_isLetter : MD := (yX4_isLetter, cX4_isLetter, 1, (some .boolean), 0, 0)
set_option maxRecDepth 50000 in
theorem mwX4_isLetter : MW mX4_isLetter := ⟨(gw_of (List.mem_append_right _ (List.mem_append_right _ (List.mem_append_left _ (List.mem_of_getElem? (i := 31) rfl)))) rfl), (gw_of (List.mem_append_right _ (List.mem_append_left _ (List.mem_of_getElem? (i := 7) rfl))) rfl), by decide +kernel, by decide +kernel, by decide +kernel⟩
set_option maxRecDepth 50000 in
theorem wtX4_isLetter : Cond.static yX4_isLetter ∈ gw := (gw_of (List.mem_append_right _ (List.mem_append_right _ (List.mem_append_left _ (List.mem_of_getElem? (i := 30) rfl)))) rfl)
def mX4_isDigit : MD := (yX4_isDigit, cX4_isDigit, 1, (some .boolean), 0, 0)
set_option maxRecDepth 50000 in
theorem mwX4_isDigit : MW mX4_isDigit := ⟨(gw_of (List.mem_append_right _ (List.mem_append_right _ (List.mem_append_left _ (List.mem_of_getElem? (i := 37) rfl)))) rfl), (gw_of (List.mem_append_right _ (List.mem_append_left _ (List.mem_of_getElem? (i := 7) rfl))) rfl), by decide +kernel, by decide +kernel, by decide +kernel⟩
set_option maxRecDepth 50000 in
theorem wtX4_isDigit : Cond.static yX4_isDigit ∈ gw := (gw_of (List.mem_append_right _ (List.mem_append_right _ (List.mem_append_left _ (List.mem_of_getElem? (i := 36) rfl)))) rfl)
def mX4_isSmall : MD := (yX4_isSmall, cX4_isSmall, 1, (some .boolean), 0, 0)
set_option maxRecDepth 50000 in
theorem mwX4_isSmall : MW mX4_isSmall := ⟨(gw_of (List.mem_append_right _ (List.mem_append_right _ (List.mem_append_left _ (List.mem_of_getElem? (i := 40) rfl)))) rfl), (gw_of (List.mem_append_right _ (List.mem_append_left _ (List.mem_of_getElem? (i := 7) rfl))) rfl), by decide +kernel, by decide +kernel, by decide +kernel⟩
set_option maxRecDepth 50000 in
theorem wtX4_isSmall : Cond.static yX4_isSmall ∈ gw := (gw_of (List.mem_append_right _ (List.mem_append_right _ (List.mem_append_left _ (List.mem_of_getElem? (i := 39) rfl)))) rfl)
def mX4_isMoreOf : MD := (yX4_isMoreOf, cX4_isMoreOf, 2, (some .boolean), 1, 20)
set_option maxRecDepth 50000 in
theorem mwX4_isMoreOf : MW mX4_isMoreOf := ⟨(gw_of (List.mem_append_right _ (List.mem_append_right _ (List.mem_append_left _ (List.mem_of_getElem? (i := 34) rfl)))) rfl), (gw_of (List.mem_append_right _ (List.mem_append_left _ (List.mem_of_getElem? (i := 7) rfl))) rfl), by decide +kernel, by decide +kernel, by decide +kernel⟩
set_option maxRecDepth 50000 in
theorem wtX4_isMoreOf : Cond.static yX4_isMoreOf ∈ gw := (gw_of (List.mem_append_right _ (List.mem_append_right _ (List.mem_append_left _ (List.mem_of_getElem? (i := 33) rfl)))) rfl)
def mX4_tokenSigns : MD := (yX4_tokenSigns, cX4_tokenSigns, 4, (some .int), 2, 41)
set_option maxRecDepth 50000 in
theorem mwX4_tokenSigns : MW mX4_tokenSigns := ⟨(gw_of (List.mem_append_right _ (List.mem_append_right _ (List.mem_append_left _ (List.mem_of_getElem? (i := 27) rfl)))) rfl), (gw_of (List.mem_append_right _ (List.mem_append_left _ (List.mem_of_getElem? (i := 7) rfl))) rfl), by decide +kernel, by decide +kernel, by decide +kernel⟩
set_option maxRecDepth 50000 in
theorem wtX4_tokenSigns : Cond.static yX4_tokenSigns ∈ gw := (gw_of (List.mem_append_right _ (List.mem_append_right _ (List.mem_append_left _ (List.mem_of_getElem? (i := 26) rfl)))) rfl)
def mX4_takesColon : MD := (yX4_takesColon, cX4_takesColon, 2, (some .boolean), 0, 0)
set_option maxRecDepth 50000 in
theorem mwX4_takesColon : MW mX4_takesColon := ⟨(gw_of (List.mem_append_right _ (List.mem_append_right _ (List.mem_append_left _ (List.mem_of_getElem? (i := 48) rfl)))) rfl), (gw_of (List.mem_append_right _ (List.mem_append_left _ (List.mem_of_getElem? (i := 7) rfl))) rfl), by decide +kernel, by decide +kernel, by decide +kernel⟩
set_option maxRecDepth 50000 in
theorem wiX4_takesColon : Cond.instanceMethod yX4_takesColon ∈ gw := (gw_of (List.mem_append_right _ (List.mem_append_right _ (List.mem_append_left _ (List.mem_of_getElem? (i := 47) rfl)))) rfl)
set_option maxRecDepth 50000 in
theorem wsX4_takesColon : Cond.selects RX4 yX4_takesColon yX4_takesColon ∈ gw := (gw_of (List.mem_append_left _ (List.mem_of_getElem? (i := 5) rfl)) rfl)
def mX4_takesLetter : MD := (yX4_takesLetter, cX4_takesLetter, 4, (some .boolean), 1, 22)
set_option maxRecDepth 50000 in
theorem mwX4_takesLetter : MW mX4_takesLetter := ⟨(gw_of (List.mem_append_right _ (List.mem_append_right _ (List.mem_append_left _ (List.mem_of_getElem? (i := 52) rfl)))) rfl), (gw_of (List.mem_append_right _ (List.mem_append_left _ (List.mem_of_getElem? (i := 7) rfl))) rfl), by decide +kernel, by decide +kernel, by decide +kernel⟩
set_option maxRecDepth 50000 in
theorem wiX4_takesLetter : Cond.instanceMethod yX4_takesLetter ∈ gw := (gw_of (List.mem_append_right _ (List.mem_append_right _ (List.mem_append_left _ (List.mem_of_getElem? (i := 51) rfl)))) rfl)
set_option maxRecDepth 50000 in
theorem wsX4_takesLetter : Cond.selects RX4 yX4_takesLetter yX4_takesLetter ∈ gw := (gw_of (List.mem_append_left _ (List.mem_of_getElem? (i := 6) rfl)) rfl)
def mX4_takesPlace : MD := (yX4_takesPlace, cX4_takesPlace, 3, (some .boolean), 0, 0)
set_option maxRecDepth 50000 in
theorem mwX4_takesPlace : MW mX4_takesPlace := ⟨(gw_of (List.mem_append_right _ (List.mem_append_right _ (List.mem_append_left _ (List.mem_of_getElem? (i := 60) rfl)))) rfl), (gw_of (List.mem_append_right _ (List.mem_append_left _ (List.mem_of_getElem? (i := 7) rfl))) rfl), by decide +kernel, by decide +kernel, by decide +kernel⟩
set_option maxRecDepth 50000 in
theorem wiX4_takesPlace : Cond.instanceMethod yX4_takesPlace ∈ gw := (gw_of (List.mem_append_right _ (List.mem_append_right _ (List.mem_append_left _ (List.mem_of_getElem? (i := 59) rfl)))) rfl)
set_option maxRecDepth 50000 in
theorem wsX4_takesPlace : Cond.selects RX4 yX4_takesPlace yX4_takesPlace ∈ gw := (gw_of (List.mem_append_left _ (List.mem_of_getElem? (i := 7) rfl)) rfl)
def mX4_valueOf : MD := (yX4_valueOf, cX4_valueOf, 5, (some .int), 1, 21)
set_option maxRecDepth 50000 in
theorem mwX4_valueOf : MW mX4_valueOf := ⟨(gw_of (List.mem_append_right _ (List.mem_append_right _ (List.mem_append_left _ (List.mem_of_getElem? (i := 63) rfl)))) rfl), (gw_of (List.mem_append_right _ (List.mem_append_left _ (List.mem_of_getElem? (i := 7) rfl))) rfl), by decide +kernel, by decide +kernel, by decide +kernel⟩
set_option maxRecDepth 50000 in
theorem wtX4_valueOf : Cond.static yX4_valueOf ∈ gw := (gw_of (List.mem_append_right _ (List.mem_append_right _ (List.mem_append_left _ (List.mem_of_getElem? (i := 62) rfl)))) rfl)
def mX4_takesNumber : MD := (yX4_takesNumber, cX4_takesNumber, 3, (some .boolean), 1, 22)
set_option maxRecDepth 50000 in
theorem mwX4_takesNumber : MW mX4_takesNumber := ⟨(gw_of (List.mem_append_right _ (List.mem_append_right _ (List.mem_append_left _ (List.mem_of_getElem? (i := 67) rfl)))) rfl), (gw_of (List.mem_append_right _ (List.mem_append_left _ (List.mem_of_getElem? (i := 7) rfl))) rfl), by decide +kernel, by decide +kernel, by decide +kernel⟩
set_option maxRecDepth 50000 in
theorem wiX4_takesNumber : Cond.instanceMethod yX4_takesNumber ∈ gw := (gw_of (List.mem_append_right _ (List.mem_append_right _ (List.mem_append_left _ (List.mem_of_getElem? (i := 66) rfl)))) rfl)
set_option maxRecDepth 50000 in
theorem wsX4_takesNumber : Cond.selects RX4 yX4_takesNumber yX4_takesNumber ∈ gw := (gw_of (List.mem_append_left _ (List.mem_of_getElem? (i := 8) rfl)) rfl)
def mX4_wordOf : MD := (yX4_wordOf, cX4_wordOf, 8, (some .int), 4, 90)
set_option maxRecDepth 50000 in
theorem mwX4_wordOf : MW mX4_wordOf := ⟨(gw_of (List.mem_append_right _ (List.mem_append_right _ (List.mem_append_left _ (List.mem_of_getElem? (i := 70) rfl)))) rfl), (gw_of (List.mem_append_right _ (List.mem_append_left _ (List.mem_of_getElem? (i := 7) rfl))) rfl), by decide +kernel, by decide +kernel, by decide +kernel⟩
set_option maxRecDepth 50000 in
theorem wtX4_wordOf : Cond.static yX4_wordOf ∈ gw := (gw_of (List.mem_append_right _ (List.mem_append_right _ (List.mem_append_left _ (List.mem_of_getElem? (i := 69) rfl)))) rfl)
def mX4_takesWord : MD := (yX4_takesWord, cX4_takesWord, 3, (some .boolean), 1, 22)
set_option maxRecDepth 50000 in
theorem mwX4_takesWord : MW mX4_takesWord := ⟨(gw_of (List.mem_append_right _ (List.mem_append_right _ (List.mem_append_left _ (List.mem_of_getElem? (i := 123) rfl)))) rfl), (gw_of (List.mem_append_right _ (List.mem_append_left _ (List.mem_of_getElem? (i := 7) rfl))) rfl), by decide +kernel, by decide +kernel, by decide +kernel⟩
set_option maxRecDepth 50000 in
theorem wiX4_takesWord : Cond.instanceMethod yX4_takesWord ∈ gw := (gw_of (List.mem_append_right _ (List.mem_append_right _ (List.mem_append_left _ (List.mem_of_getElem? (i := 122) rfl)))) rfl)
set_option maxRecDepth 50000 in
theorem wsX4_takesWord : Cond.selects RX4 yX4_takesWord yX4_takesWord ∈ gw := (gw_of (List.mem_append_left _ (List.mem_of_getElem? (i := 9) rfl)) rfl)
def mX4_takes : MD := (yX4_takes, cX4_takes, 5, (some .boolean), 5, 117)
set_option maxRecDepth 50000 in
theorem mwX4_takes : MW mX4_takes := ⟨(gw_of (List.mem_append_right _ (List.mem_append_right _ (List.mem_append_left _ (List.mem_of_getElem? (i := 44) rfl)))) rfl), (gw_of (List.mem_append_right _ (List.mem_append_left _ (List.mem_of_getElem? (i := 7) rfl))) rfl), by decide +kernel, by decide +kernel, by decide +kernel⟩
set_option maxRecDepth 50000 in
theorem wiX4_takes : Cond.instanceMethod yX4_takes ∈ gw := (gw_of (List.mem_append_right _ (List.mem_append_right _ (List.mem_append_left _ (List.mem_of_getElem? (i := 43) rfl)))) rfl)
set_option maxRecDepth 50000 in
theorem wsX4_takes : Cond.selects RX4 yX4_takes yX4_takes ∈ gw := (gw_of (List.mem_append_left _ (List.mem_of_getElem? (i := 4) rfl)) rfl)
def mX4_putPlaces : MD := (yX4_putPlaces, cX4_putPlaces, 3, (some .int), 1, 22)
set_option maxRecDepth 50000 in
theorem mwX4_putPlaces : MW mX4_putPlaces := ⟨(gw_of (List.mem_append_right _ (List.mem_append_right _ (List.mem_append_left _ (List.mem_of_getElem? (i := 130) rfl)))) rfl), (gw_of (List.mem_append_right _ (List.mem_append_left _ (List.mem_of_getElem? (i := 7) rfl))) rfl), by decide +kernel, by decide +kernel, by decide +kernel⟩
set_option maxRecDepth 50000 in
theorem wiX4_putPlaces : Cond.instanceMethod yX4_putPlaces ∈ gw := (gw_of (List.mem_append_right _ (List.mem_append_right _ (List.mem_append_left _ (List.mem_of_getElem? (i := 129) rfl)))) rfl)
set_option maxRecDepth 50000 in
theorem wsX4_putPlaces : Cond.selects RX4 yX4_putPlaces yX4_putPlaces ∈ gw := (gw_of (List.mem_append_left _ (List.mem_of_getElem? (i := 10) rfl)) rfl)
def mX4_faultIn : MD := (yX4_faultIn, cX4_faultIn, 5, (some .int), 6, 141)
set_option maxRecDepth 50000 in
theorem mwX4_faultIn : MW mX4_faultIn := ⟨(gw_of (List.mem_append_right _ (List.mem_append_right _ (List.mem_append_left _ (List.mem_of_getElem? (i := 16) rfl)))) rfl), (gw_of (List.mem_append_right _ (List.mem_append_left _ (List.mem_of_getElem? (i := 7) rfl))) rfl), by decide +kernel, by decide +kernel, by decide +kernel⟩
set_option maxRecDepth 50000 in
theorem wiX4_faultIn : Cond.instanceMethod yX4_faultIn ∈ gw := (gw_of (List.mem_append_right _ (List.mem_append_right _ (List.mem_append_left _ (List.mem_of_getElem? (i := 15) rfl)))) rfl)
def mX5_init : MD := (yX5_init, cX5_init, 1, (none : Option Jvm.ClassFile.FieldType), 3, 65)
set_option maxRecDepth 50000 in
theorem mwX5_init : MW mX5_init := ⟨(gw_of (List.mem_append_right _ (List.mem_append_left _ (List.mem_of_getElem? (i := 48) rfl))) rfl), (gw_of (List.mem_append_right _ (List.mem_append_left _ (List.mem_of_getElem? (i := 4) rfl))) rfl), by decide +kernel, by decide +kernel, by decide +kernel⟩
set_option maxRecDepth 50000 in
theorem wiX5_init : Cond.instanceMethod yX5_init ∈ gw := (gw_of (List.mem_append_right _ (List.mem_append_left _ (List.mem_of_getElem? (i := 47) rfl))) rfl)
def mX5_digit : MD := (yX5_digit, cX5_digit, 1, (some .int), 0, 0)
set_option maxRecDepth 50000 in
theorem mwX5_digit : MW mX5_digit := ⟨(gw_of (List.mem_append_right _ (List.mem_append_right _ (List.mem_append_left _ (List.mem_of_getElem? (i := 146) rfl)))) rfl), (gw_of (List.mem_append_right _ (List.mem_append_left _ (List.mem_of_getElem? (i := 4) rfl))) rfl), by decide +kernel, by decide +kernel, by decide +kernel⟩
set_option maxRecDepth 50000 in
theorem wtX5_digit : Cond.static yX5_digit ∈ gw := (gw_of (List.mem_append_right _ (List.mem_append_right _ (List.mem_append_left _ (List.mem_of_getElem? (i := 145) rfl)))) rfl)
def mX5_faultIn : MD := (yX5_faultIn, cX5_faultIn, 6, (some .int), 2, 45)
set_option maxRecDepth 50000 in
theorem mwX5_faultIn : MW mX5_faultIn := ⟨(gw_of (List.mem_append_right _ (List.mem_append_right _ (List.mem_append_left _ (List.mem_of_getElem? (i := 141) rfl)))) rfl), (gw_of (List.mem_append_right _ (List.mem_append_left _ (List.mem_of_getElem? (i := 4) rfl))) rfl), by decide +kernel, by decide +kernel, by decide +kernel⟩
set_option maxRecDepth 50000 in
theorem wiX5_faultIn : Cond.instanceMethod yX5_faultIn ∈ gw := (gw_of (List.mem_append_right _ (List.mem_append_right _ (List.mem_append_left _ (List.mem_of_getElem? (i := 140) rfl)))) rfl)
def mX6_init : MD := (yX6_init, cX6_init, 1, (none : Option Jvm.ClassFile.FieldType), 1, 24)
set_option maxRecDepth 50000 in
theorem mwX6_init : MW mX6_init := ⟨(gw_of (List.mem_append_right _ (List.mem_append_left _ (List.mem_of_getElem? (i := 28) rfl))) rfl), (gw_of (List.mem_append_right _ (List.mem_append_left _ (List.mem_of_getElem? (i := 2) rfl))) rfl), by decide +kernel, by decide +kernel, by decide +kernel⟩
set_option maxRecDepth 50000 in
theorem wiX6_init : Cond.instanceMethod yX6_init ∈ gw := (gw_of (List.mem_append_right _ (List.mem_append_left _ (List.mem_of_getElem? (i := 27) rfl))) rfl)
def mX6_add : MD := (yX6_add, cX6_add, 2, (none : Option Jvm.ClassFile.FieldType), 0, 0)
set_option maxRecDepth 50000 in
theorem mwX6_add : MW mX6_add := ⟨(gw_of (List.mem_append_right _ (List.mem_append_left _ (List.mem_of_getElem? (i := 212) rfl))) rfl), (gw_of (List.mem_append_right _ (List.mem_append_left _ (List.mem_of_getElem? (i := 2) rfl))) rfl), by decide +kernel, by decide +kernel, by decide +kernel⟩
set_option maxRecDepth 50000 in
theorem wiX6_add : Cond.instanceMethod yX6_add ∈ gw := (gw_of (List.mem_append_right _ (List.mem_append_left _ (List.mem_of_getElem? (i := 210) rfl))) rfl)
set_option maxRecDepth 50000 in
theorem wsX6_add : Cond.selects RX6 yX6_add yX6_add ∈ gw := (gw_of (List.mem_append_right _ (List.mem_append_left _ (List.mem_of_getElem? (i := 211) rfl))) rfl)
def mX6_become : MD := (yX6_become, cX6_become, 3, (none : Option Jvm.ClassFile.FieldType), 1, 21)
set_option maxRecDepth 50000 in
theorem mwX6_become : MW mX6_become := ⟨(gw_of (List.mem_append_right _ (List.mem_append_left _ (List.mem_of_getElem? (i := 228) rfl))) rfl), (gw_of (List.mem_append_right _ (List.mem_append_left _ (List.mem_of_getElem? (i := 2) rfl))) rfl), by decide +kernel, by decide +kernel, by decide +kernel⟩
set_option maxRecDepth 50000 in
theorem wiX6_become : Cond.instanceMethod yX6_become ∈ gw := (gw_of (List.mem_append_right _ (List.mem_append_left _ (List.mem_of_getElem? (i := 226) rfl))) rfl)
set_option maxRecDepth 50000 in
theorem wsX6_become : Cond.selects RX6 yX6_become yX6_become ∈ gw := (gw_of (List.mem_append_right _ (List.mem_append_left _ (List.mem_of_getElem? (i := 227) rfl))) rfl)
def mX7_init : MD := (yX7_init, cX7_init, 5, (none : Option Jvm.ClassFile.FieldType), 1, 24)
set_option maxRecDepth 50000 in
theorem mwX7_init : MW mX7_init := ⟨(gw_of (List.mem_append_right _ (List.mem_append_right _ (List.mem_append_left _ (List.mem_of_getElem? (i := 167) rfl)))) rfl), (gw_of (List.mem_append_right _ (List.mem_append_left _ (List.mem_of_getElem? (i := 15) rfl))) rfl), by decide +kernel, by decide +kernel, by decide +kernel⟩
set_option maxRecDepth 50000 in
theorem wiX7_init : Cond.instanceMethod yX7_init ∈ gw := (gw_of (List.mem_append_right _ (List.mem_append_right _ (List.mem_append_left _ (List.mem_of_getElem? (i := 166) rfl)))) rfl)
def mX8_init : MD := (yX8_init, cX8_init, 2, (none : Option Jvm.ClassFile.FieldType), 4, 85)
set_option maxRecDepth 50000 in
theorem mwX8_init : MW mX8_init := ⟨(gw_of (List.mem_append_right _ (List.mem_append_left _ (List.mem_of_getElem? (i := 20) rfl))) rfl), (gw_of (List.mem_append_right _ (List.mem_append_left _ (List.mem_of_getElem? (i := 1) rfl))) rfl), by decide +kernel, by decide +kernel, by decide +kernel⟩
set_option maxRecDepth 50000 in
theorem wiX8_init : Cond.instanceMethod yX8_init ∈ gw := (gw_of (List.mem_append_right _ (List.mem_append_left _ (List.mem_of_getElem? (i := 19) rfl))) rfl)
def mX8_type : MD := (yX8_type, cX8_type, 5, (some .int), 1, 21)
set_option maxRecDepth 50000 in
theorem mwX8_type : MW mX8_type := ⟨(gw_of (List.mem_append_right _ (List.mem_append_left _ (List.mem_of_getElem? (i := 208) rfl))) rfl), (gw_of (List.mem_append_right _ (List.mem_append_left _ (List.mem_of_getElem? (i := 1) rfl))) rfl), by decide +kernel, by decide +kernel, by decide +kernel⟩
set_option maxRecDepth 50000 in
theorem wiX8_type : Cond.instanceMethod yX8_type ∈ gw := (gw_of (List.mem_append_right _ (List.mem_append_left _ (List.mem_of_getElem? (i := 206) rfl))) rfl)
set_option maxRecDepth 50000 in
theorem wsX8_type : Cond.selects RX8 yX8_type yX8_type ∈ gw := (gw_of (List.mem_append_right _ (List.mem_append_left _ (List.mem_of_getElem? (i := 207) rfl))) rfl)
def mX8_clear : MD := (yX8_clear, cX8_clear, 2, (some .int), 0, 0)
set_option maxRecDepth 50000 in
theorem mwX8_clear : MW mX8_clear := ⟨(gw_of (List.mem_append_right _ (List.mem_append_left _ (List.mem_of_getElem? (i := 216) rfl))) rfl), (gw_of (List.mem_append_right _ (List.mem_append_left _ (List.mem_of_getElem? (i := 1) rfl))) rfl), by decide +kernel, by decide +kernel, by decide +kernel⟩
set_option maxRecDepth 50000 in
theorem wiX8_clear : Cond.instanceMethod yX8_clear ∈ gw := (gw_of (List.mem_append_right _ (List.mem_append_left _ (List.mem_of_getElem? (i := 214) rfl))) rfl)
set_option maxRecDepth 50000 in
theorem wsX8_clear : Cond.selects RX8 yX8_clear yX8_clear ∈ gw := (gw_of (List.mem_append_right _ (List.mem_append_left _ (List.mem_of_getElem? (i := 215) rfl))) rfl)
def mX8_textAt : MD := (yX8_textAt, cX8_textAt, 2, (some (.object "LadderForge$Text")), 0, 0)
set_option maxRecDepth 50000 in
theorem mwX8_textAt : MW mX8_textAt := ⟨(gw_of (List.mem_append_right _ (List.mem_append_left _ (List.mem_of_getElem? (i := 224) rfl))) rfl), (gw_of (List.mem_append_right _ (List.mem_append_left _ (List.mem_of_getElem? (i := 1) rfl))) rfl), by decide +kernel, by decide +kernel, by decide +kernel⟩
set_option maxRecDepth 50000 in
theorem wiX8_textAt : Cond.instanceMethod yX8_textAt ∈ gw := (gw_of (List.mem_append_right _ (List.mem_append_left _ (List.mem_of_getElem? (i := 223) rfl))) rfl)
set_option maxRecDepth 50000 in
theorem wsX8_textAt : Cond.selects RX8 yX8_textAt yX8_textAt ∈ gw := (gw_of (List.mem_append_left _ (List.mem_of_getElem? (i := 0) rfl)) rfl)
def mX8_text : MD := (yX8_text, cX8_text, 3, (some .int), 2, 43)
set_option maxRecDepth 50000 in
theorem mwX8_text : MW mX8_text := ⟨(gw_of (List.mem_append_right _ (List.mem_append_left _ (List.mem_of_getElem? (i := 220) rfl))) rfl), (gw_of (List.mem_append_right _ (List.mem_append_left _ (List.mem_of_getElem? (i := 1) rfl))) rfl), by decide +kernel, by decide +kernel, by decide +kernel⟩
set_option maxRecDepth 50000 in
theorem wiX8_text : Cond.instanceMethod yX8_text ∈ gw := (gw_of (List.mem_append_right _ (List.mem_append_left _ (List.mem_of_getElem? (i := 218) rfl))) rfl)
set_option maxRecDepth 50000 in
theorem wsX8_text : Cond.selects RX8 yX8_text yX8_text ∈ gw := (gw_of (List.mem_append_right _ (List.mem_append_left _ (List.mem_of_getElem? (i := 219) rfl))) rfl)
def mX8_read : MD := (yX8_read, cX8_read, 4, (some .int), 1, 21)
set_option maxRecDepth 50000 in
theorem mwX8_read : MW mX8_read := ⟨(gw_of (List.mem_append_right _ (List.mem_append_left _ (List.mem_of_getElem? (i := 237) rfl))) rfl), (gw_of (List.mem_append_right _ (List.mem_append_left _ (List.mem_of_getElem? (i := 1) rfl))) rfl), by decide +kernel, by decide +kernel, by decide +kernel⟩
set_option maxRecDepth 50000 in
theorem wiX8_read : Cond.instanceMethod yX8_read ∈ gw := (gw_of (List.mem_append_right _ (List.mem_append_left _ (List.mem_of_getElem? (i := 235) rfl))) rfl)
set_option maxRecDepth 50000 in
theorem wsX8_read : Cond.selects RX8 yX8_read yX8_read ∈ gw := (gw_of (List.mem_append_right _ (List.mem_append_left _ (List.mem_of_getElem? (i := 236) rfl))) rfl)
def mX8_makerBy : MD := (yX8_makerBy, cX8_makerBy, 2, (some (.object "LadderForge$Maker")), 0, 0)
set_option maxRecDepth 50000 in
theorem mwX8_makerBy : MW mX8_makerBy := ⟨(gw_of (List.mem_append_right _ (List.mem_append_right _ (List.mem_append_left _ (List.mem_of_getElem? (i := 10) rfl)))) rfl), (gw_of (List.mem_append_right _ (List.mem_append_left _ (List.mem_of_getElem? (i := 1) rfl))) rfl), by decide +kernel, by decide +kernel, by decide +kernel⟩
set_option maxRecDepth 50000 in
theorem wiX8_makerBy : Cond.instanceMethod yX8_makerBy ∈ gw := (gw_of (List.mem_append_right _ (List.mem_append_right _ (List.mem_append_left _ (List.mem_of_getElem? (i := 9) rfl)))) rfl)
set_option maxRecDepth 50000 in
theorem wsX8_makerBy : Cond.selects RX8 yX8_makerBy yX8_makerBy ∈ gw := (gw_of (List.mem_append_left _ (List.mem_of_getElem? (i := 2) rfl)) rfl)
def mX8_keep : MD := (yX8_keep, cX8_keep, 5, (some .int), 3, 67)
set_option maxRecDepth 50000 in
theorem mwX8_keep : MW mX8_keep := ⟨(gw_of (List.mem_append_right _ (List.mem_append_right _ (List.mem_append_left _ (List.mem_of_getElem? (i := 151) rfl)))) rfl), (gw_of (List.mem_append_right _ (List.mem_append_left _ (List.mem_of_getElem? (i := 1) rfl))) rfl), by decide +kernel, by decide +kernel, by decide +kernel⟩
set_option maxRecDepth 50000 in
theorem wiX8_keep : Cond.instanceMethod yX8_keep ∈ gw := (gw_of (List.mem_append_right _ (List.mem_append_right _ (List.mem_append_left _ (List.mem_of_getElem? (i := 150) rfl)))) rfl)
set_option maxRecDepth 50000 in
theorem wsX8_keep : Cond.selects RX8 yX8_keep yX8_keep ∈ gw := (gw_of (List.mem_append_left _ (List.mem_of_getElem? (i := 11) rfl)) rfl)
def mX8_make : MD := (yX8_make, cX8_make, 6, (some .int), 7, 165)
set_option maxRecDepth 50000 in
theorem mwX8_make : MW mX8_make := ⟨(gw_of (List.mem_append_right _ (List.mem_append_right _ (List.mem_append_left _ (List.mem_of_getElem? (i := 6) rfl)))) rfl), (gw_of (List.mem_append_right _ (List.mem_append_left _ (List.mem_of_getElem? (i := 1) rfl))) rfl), by decide +kernel, by decide +kernel, by decide +kernel⟩
set_option maxRecDepth 50000 in
theorem wiX8_make : Cond.instanceMethod yX8_make ∈ gw := (gw_of (List.mem_append_right _ (List.mem_append_right _ (List.mem_append_left _ (List.mem_of_getElem? (i := 5) rfl)))) rfl)
set_option maxRecDepth 50000 in
theorem wsX8_make : Cond.selects RX8 yX8_make yX8_make ∈ gw := (gw_of (List.mem_append_left _ (List.mem_of_getElem? (i := 1) rfl)) rfl)
def mX8_pairs : MD := (yX8_pairs, cX8_pairs, 2, (some .int), 8, 190)
set_option maxRecDepth 50000 in
theorem mwX8_pairs : MW mX8_pairs := ⟨(gw_of (List.mem_append_right _ (List.mem_append_right _ (List.mem_append_left _ (List.mem_of_getElem? (i := 2) rfl)))) rfl), (gw_of (List.mem_append_right _ (List.mem_append_left _ (List.mem_of_getElem? (i := 1) rfl))) rfl), by decide +kernel, by decide +kernel, by decide +kernel⟩
set_option maxRecDepth 50000 in
theorem wiX8_pairs : Cond.instanceMethod yX8_pairs ∈ gw := (gw_of (List.mem_append_right _ (List.mem_append_right _ (List.mem_append_left _ (List.mem_of_getElem? (i := 0) rfl)))) rfl)
set_option maxRecDepth 50000 in
theorem wsX8_pairs : Cond.selects RX8 yX8_pairs yX8_pairs ∈ gw := (gw_of (List.mem_append_right _ (List.mem_append_right _ (List.mem_append_left _ (List.mem_of_getElem? (i := 1) rfl)))) rfl)
def mX8_named : MD := (yX8_named, cX8_named, 2, (some .int), 8, 190)
set_option maxRecDepth 50000 in
theorem mwX8_named : MW mX8_named := ⟨(gw_of (List.mem_append_right _ (List.mem_append_right _ (List.mem_append_left _ (List.mem_of_getElem? (i := 194) rfl)))) rfl), (gw_of (List.mem_append_right _ (List.mem_append_left _ (List.mem_of_getElem? (i := 1) rfl))) rfl), by decide +kernel, by decide +kernel, by decide +kernel⟩
set_option maxRecDepth 50000 in
theorem wiX8_named : Cond.instanceMethod yX8_named ∈ gw := (gw_of (List.mem_append_right _ (List.mem_append_right _ (List.mem_append_left _ (List.mem_of_getElem? (i := 192) rfl)))) rfl)
set_option maxRecDepth 50000 in
theorem wsX8_named : Cond.selects RX8 yX8_named yX8_named ∈ gw := (gw_of (List.mem_append_right _ (List.mem_append_right _ (List.mem_append_left _ (List.mem_of_getElem? (i := 193) rfl)))) rfl)
def mX8_toolAt : MD := (yX8_toolAt, cX8_toolAt, 2, (some (.object "LadderForge$Tool")), 0, 0)
set_option maxRecDepth 50000 in
theorem mwX8_toolAt : MW mX8_toolAt := ⟨(gw_of (List.mem_append_right _ (List.mem_append_right _ (List.mem_append_left _ (List.mem_of_getElem? (i := 202) rfl)))) rfl), (gw_of (List.mem_append_right _ (List.mem_append_left _ (List.mem_of_getElem? (i := 1) rfl))) rfl), by decide +kernel, by decide +kernel, by decide +kernel⟩
set_option maxRecDepth 50000 in
theorem wiX8_toolAt : Cond.instanceMethod yX8_toolAt ∈ gw := (gw_of (List.mem_append_right _ (List.mem_append_right _ (List.mem_append_left _ (List.mem_of_getElem? (i := 201) rfl)))) rfl)
set_option maxRecDepth 50000 in
theorem wsX8_toolAt : Cond.selects RX8 yX8_toolAt yX8_toolAt ∈ gw := (gw_of (List.mem_append_left _ (List.mem_of_getElem? (i := 12) rfl)) rfl)
def mX8_build : MD := (yX8_build, cX8_build, 5, (some .int), 4, 95)
set_option maxRecDepth 50000 in
theorem mwX8_build : MW mX8_build := ⟨(gw_of (List.mem_append_right _ (List.mem_append_right _ (List.mem_append_left _ (List.mem_of_getElem? (i := 198) rfl)))) rfl), (gw_of (List.mem_append_right _ (List.mem_append_left _ (List.mem_of_getElem? (i := 1) rfl))) rfl), by decide +kernel, by decide +kernel, by decide +kernel⟩
set_option maxRecDepth 50000 in
theorem wiX8_build : Cond.instanceMethod yX8_build ∈ gw := (gw_of (List.mem_append_right _ (List.mem_append_right _ (List.mem_append_left _ (List.mem_of_getElem? (i := 196) rfl)))) rfl)
set_option maxRecDepth 50000 in
theorem wsX8_build : Cond.selects RX8 yX8_build yX8_build ∈ gw := (gw_of (List.mem_append_right _ (List.mem_append_right _ (List.mem_append_left _ (List.mem_of_getElem? (i := 197) rfl)))) rfl)
def mX8_tool : MD := (yX8_tool, cX8_tool, 4, (some .int), 1, 21)
set_option maxRecDepth 50000 in
theorem mwX8_tool : MW mX8_tool := ⟨(gw_of (List.mem_append_right _ (List.mem_append_right _ (List.mem_append_left _ (List.mem_of_getElem? (i := 237) rfl)))) rfl), (gw_of (List.mem_append_right _ (List.mem_append_left _ (List.mem_of_getElem? (i := 1) rfl))) rfl), by decide +kernel, by decide +kernel, by decide +kernel⟩
set_option maxRecDepth 50000 in
theorem wiX8_tool : Cond.instanceMethod yX8_tool ∈ gw := (gw_of (List.mem_append_right _ (List.mem_append_right _ (List.mem_append_left _ (List.mem_of_getElem? (i := 235) rfl)))) rfl)
set_option maxRecDepth 50000 in
theorem wsX8_tool : Cond.selects RX8 yX8_tool yX8_tool ∈ gw := (gw_of (List.mem_append_right _ (List.mem_append_right _ (List.mem_append_left _ (List.mem_of_getElem? (i := 236) rfl)))) rfl)
def mX8_code : MD := (yX8_code, cX8_code, 5, (some .int), 1, 21)
set_option maxRecDepth 50000 in
theorem mwX8_code : MW mX8_code := ⟨(gw_of (List.mem_append_right _ (List.mem_append_right _ (List.mem_append_right _ (List.mem_append_left _ (List.mem_of_getElem? (i := 1) rfl))))) rfl), (gw_of (List.mem_append_right _ (List.mem_append_left _ (List.mem_of_getElem? (i := 1) rfl))) rfl), by decide +kernel, by decide +kernel, by decide +kernel⟩
set_option maxRecDepth 50000 in
theorem wiX8_code : Cond.instanceMethod yX8_code ∈ gw := (gw_of (List.mem_append_right _ (List.mem_append_right _ (List.mem_append_left _ (List.mem_of_getElem? (i := 239) rfl)))) rfl)
set_option maxRecDepth 50000 in
theorem wsX8_code : Cond.selects RX8 yX8_code yX8_code ∈ gw := (gw_of (List.mem_append_right _ (List.mem_append_right _ (List.mem_append_right _ (List.mem_append_left _ (List.mem_of_getElem? (i := 0) rfl))))) rfl)
def mX8_run : MD := (yX8_run, cX8_run, 5, (some .int), 3, 73)
set_option maxRecDepth 50000 in
theorem mwX8_run : MW mX8_run := ⟨(gw_of (List.mem_append_right _ (List.mem_append_right _ (List.mem_append_right _ (List.mem_append_left _ (List.mem_of_getElem? (i := 7) rfl))))) rfl), (gw_of (List.mem_append_right _ (List.mem_append_left _ (List.mem_of_getElem? (i := 1) rfl))) rfl), by decide +kernel, by decide +kernel, by decide +kernel⟩
set_option maxRecDepth 50000 in
theorem wiX8_run : Cond.instanceMethod yX8_run ∈ gw := (gw_of (List.mem_append_right _ (List.mem_append_right _ (List.mem_append_right _ (List.mem_append_left _ (List.mem_of_getElem? (i := 5) rfl))))) rfl)
set_option maxRecDepth 50000 in
theorem wsX8_run : Cond.selects RX8 yX8_run yX8_run ∈ gw := (gw_of (List.mem_append_right _ (List.mem_append_right _ (List.mem_append_right _ (List.mem_append_left _ (List.mem_of_getElem? (i := 6) rfl))))) rfl)
def mX8_ran : MD := (yX8_ran, cX8_ran, 2, (some .int), 0, 0)
set_option maxRecDepth 50000 in
theorem mwX8_ran : MW mX8_ran := ⟨(gw_of (List.mem_append_right _ (List.mem_append_right _ (List.mem_append_right _ (List.mem_append_left _ (List.mem_of_getElem? (i := 12) rfl))))) rfl), (gw_of (List.mem_append_right _ (List.mem_append_left _ (List.mem_of_getElem? (i := 1) rfl))) rfl), by decide +kernel, by decide +kernel, by decide +kernel⟩
set_option maxRecDepth 50000 in
theorem wiX8_ran : Cond.instanceMethod yX8_ran ∈ gw := (gw_of (List.mem_append_right _ (List.mem_append_right _ (List.mem_append_right _ (List.mem_append_left _ (List.mem_of_getElem? (i := 10) rfl))))) rfl)
set_option maxRecDepth 50000 in
theorem wsX8_ran : Cond.selects RX8 yX8_ran yX8_ran ∈ gw := (gw_of (List.mem_append_right _ (List.mem_append_right _ (List.mem_append_right _ (List.mem_append_left _ (List.mem_of_getElem? (i := 11) rfl))))) rfl)
def mX8_tape : MD := (yX8_tape, cX8_tape, 3, (some .int), 1, 21)
set_option maxRecDepth 50000 in
theorem mwX8_tape : MW mX8_tape := ⟨(gw_of (List.mem_append_right _ (List.mem_append_right _ (List.mem_append_right _ (List.mem_append_left _ (List.mem_of_getElem? (i := 16) rfl))))) rfl), (gw_of (List.mem_append_right _ (List.mem_append_left _ (List.mem_of_getElem? (i := 1) rfl))) rfl), by decide +kernel, by decide +kernel, by decide +kernel⟩
set_option maxRecDepth 50000 in
theorem wiX8_tape : Cond.instanceMethod yX8_tape ∈ gw := (gw_of (List.mem_append_right _ (List.mem_append_right _ (List.mem_append_right _ (List.mem_append_left _ (List.mem_of_getElem? (i := 14) rfl))))) rfl)
set_option maxRecDepth 50000 in
theorem wsX8_tape : Cond.selects RX8 yX8_tape yX8_tape ∈ gw := (gw_of (List.mem_append_right _ (List.mem_append_right _ (List.mem_append_right _ (List.mem_append_left _ (List.mem_of_getElem? (i := 15) rfl))))) rfl)
def mX8_builtAgain : MD := (yX8_builtAgain, cX8_builtAgain, 4, (some .int), 3, 73)
set_option maxRecDepth 50000 in
theorem mwX8_builtAgain : MW mX8_builtAgain := ⟨(gw_of (List.mem_append_right _ (List.mem_append_right _ (List.mem_append_right _ (List.mem_append_left _ (List.mem_of_getElem? (i := 32) rfl))))) rfl), (gw_of (List.mem_append_right _ (List.mem_append_left _ (List.mem_of_getElem? (i := 1) rfl))) rfl), by decide +kernel, by decide +kernel, by decide +kernel⟩
set_option maxRecDepth 50000 in
theorem wiX8_builtAgain : Cond.instanceMethod yX8_builtAgain ∈ gw := (gw_of (List.mem_append_right _ (List.mem_append_right _ (List.mem_append_right _ (List.mem_append_left _ (List.mem_of_getElem? (i := 31) rfl))))) rfl)
set_option maxRecDepth 50000 in
theorem wsX8_builtAgain : Cond.selects RX8 yX8_builtAgain yX8_builtAgain ∈ gw := (gw_of (List.mem_append_left _ (List.mem_of_getElem? (i := 18) rfl)) rfl)
def mX8_madeAgain : MD := (yX8_madeAgain, cX8_madeAgain, 4, (some .int), 7, 165)
set_option maxRecDepth 50000 in
theorem mwX8_madeAgain : MW mX8_madeAgain := ⟨(gw_of (List.mem_append_right _ (List.mem_append_right _ (List.mem_append_right _ (List.mem_append_left _ (List.mem_of_getElem? (i := 28) rfl))))) rfl), (gw_of (List.mem_append_right _ (List.mem_append_left _ (List.mem_of_getElem? (i := 1) rfl))) rfl), by decide +kernel, by decide +kernel, by decide +kernel⟩
set_option maxRecDepth 50000 in
theorem wiX8_madeAgain : Cond.instanceMethod yX8_madeAgain ∈ gw := (gw_of (List.mem_append_right _ (List.mem_append_right _ (List.mem_append_right _ (List.mem_append_left _ (List.mem_of_getElem? (i := 27) rfl))))) rfl)
set_option maxRecDepth 50000 in
theorem wsX8_madeAgain : Cond.selects RX8 yX8_madeAgain yX8_madeAgain ∈ gw := (gw_of (List.mem_append_left _ (List.mem_of_getElem? (i := 17) rfl)) rfl)
def mX8_rebuilt : MD := (yX8_rebuilt, cX8_rebuilt, 3, (some .int), 8, 188)
set_option maxRecDepth 50000 in
theorem mwX8_rebuilt : MW mX8_rebuilt := ⟨(gw_of (List.mem_append_right _ (List.mem_append_right _ (List.mem_append_right _ (List.mem_append_left _ (List.mem_of_getElem? (i := 24) rfl))))) rfl), (gw_of (List.mem_append_right _ (List.mem_append_left _ (List.mem_of_getElem? (i := 1) rfl))) rfl), by decide +kernel, by decide +kernel, by decide +kernel⟩
set_option maxRecDepth 50000 in
theorem wiX8_rebuilt : Cond.instanceMethod yX8_rebuilt ∈ gw := (gw_of (List.mem_append_right _ (List.mem_append_right _ (List.mem_append_right _ (List.mem_append_left _ (List.mem_of_getElem? (i := 22) rfl))))) rfl)
set_option maxRecDepth 50000 in
theorem wsX8_rebuilt : Cond.selects RX8 yX8_rebuilt yX8_rebuilt ∈ gw := (gw_of (List.mem_append_right _ (List.mem_append_right _ (List.mem_append_right _ (List.mem_append_left _ (List.mem_of_getElem? (i := 23) rfl))))) rfl)
def mX8_hasBit : MD := (yX8_hasBit, cX8_hasBit, 2, (some .boolean), 0, 0)
set_option maxRecDepth 50000 in
theorem mwX8_hasBit : MW mX8_hasBit := ⟨(gw_of (List.mem_append_right _ (List.mem_append_right _ (List.mem_append_right _ (List.mem_append_left _ (List.mem_of_getElem? (i := 50) rfl))))) rfl), (gw_of (List.mem_append_right _ (List.mem_append_left _ (List.mem_of_getElem? (i := 1) rfl))) rfl), by decide +kernel, by decide +kernel, by decide +kernel⟩
set_option maxRecDepth 50000 in
theorem wtX8_hasBit : Cond.static yX8_hasBit ∈ gw := (gw_of (List.mem_append_right _ (List.mem_append_right _ (List.mem_append_right _ (List.mem_append_left _ (List.mem_of_getElem? (i := 49) rfl))))) rfl)
def mX8_isBuiltByOneOf : MD := (yX8_isBuiltByOneOf, cX8_isBuiltByOneOf, 2, (some .boolean), 1, 21)
set_option maxRecDepth 50000 in
theorem mwX8_isBuiltByOneOf : MW mX8_isBuiltByOneOf := ⟨(gw_of (List.mem_append_right _ (List.mem_append_right _ (List.mem_append_right _ (List.mem_append_left _ (List.mem_of_getElem? (i := 47) rfl))))) rfl), (gw_of (List.mem_append_right _ (List.mem_append_left _ (List.mem_of_getElem? (i := 1) rfl))) rfl), by decide +kernel, by decide +kernel, by decide +kernel⟩
set_option maxRecDepth 50000 in
theorem wtX8_isBuiltByOneOf : Cond.static yX8_isBuiltByOneOf ∈ gw := (gw_of (List.mem_append_right _ (List.mem_append_right _ (List.mem_append_right _ (List.mem_append_left _ (List.mem_of_getElem? (i := 46) rfl))))) rfl)
def mX8_staleBits : MD := (yX8_staleBits, cX8_staleBits, 4, (some .int), 8, 188)
set_option maxRecDepth 50000 in
theorem mwX8_staleBits : MW mX8_staleBits := ⟨(gw_of (List.mem_append_right _ (List.mem_append_right _ (List.mem_append_right _ (List.mem_append_left _ (List.mem_of_getElem? (i := 44) rfl))))) rfl), (gw_of (List.mem_append_right _ (List.mem_append_left _ (List.mem_of_getElem? (i := 1) rfl))) rfl), by decide +kernel, by decide +kernel, by decide +kernel⟩
set_option maxRecDepth 50000 in
theorem wiX8_staleBits : Cond.instanceMethod yX8_staleBits ∈ gw := (gw_of (List.mem_append_right _ (List.mem_append_right _ (List.mem_append_right _ (List.mem_append_left _ (List.mem_of_getElem? (i := 43) rfl))))) rfl)
set_option maxRecDepth 50000 in
theorem wsX8_staleBits : Cond.selects RX8 yX8_staleBits yX8_staleBits ∈ gw := (gw_of (List.mem_append_left _ (List.mem_of_getElem? (i := 19) rfl)) rfl)
def mX8_stale : MD := (yX8_stale, cX8_stale, 1, (some .int), 9, 211)
set_option maxRecDepth 50000 in
theorem mwX8_stale : MW mX8_stale := ⟨(gw_of (List.mem_append_right _ (List.mem_append_right _ (List.mem_append_right _ (List.mem_append_left _ (List.mem_of_getElem? (i := 40) rfl))))) rfl), (gw_of (List.mem_append_right _ (List.mem_append_left _ (List.mem_of_getElem? (i := 1) rfl))) rfl), by decide +kernel, by decide +kernel, by decide +kernel⟩
set_option maxRecDepth 50000 in
theorem wiX8_stale : Cond.instanceMethod yX8_stale ∈ gw := (gw_of (List.mem_append_right _ (List.mem_append_right _ (List.mem_append_right _ (List.mem_append_left _ (List.mem_of_getElem? (i := 38) rfl))))) rfl)
set_option maxRecDepth 50000 in
theorem wsX8_stale : Cond.selects RX8 yX8_stale yX8_stale ∈ gw := (gw_of (List.mem_append_right _ (List.mem_append_right _ (List.mem_append_right _ (List.mem_append_left _ (List.mem_of_getElem? (i := 39) rfl))))) rfl)
def mX8_settles : MD := (yX8_settles, cX8_settles, 8, (some .int), 4, 95)
set_option maxRecDepth 50000 in
theorem mwX8_settles : MW mX8_settles := ⟨(gw_of (List.mem_append_right _ (List.mem_append_right _ (List.mem_append_right _ (List.mem_append_left _ (List.mem_of_getElem? (i := 54) rfl))))) rfl), (gw_of (List.mem_append_right _ (List.mem_append_left _ (List.mem_of_getElem? (i := 1) rfl))) rfl), by decide +kernel, by decide +kernel, by decide +kernel⟩
set_option maxRecDepth 50000 in
theorem wiX8_settles : Cond.instanceMethod yX8_settles ∈ gw := (gw_of (List.mem_append_right _ (List.mem_append_right _ (List.mem_append_right _ (List.mem_append_left _ (List.mem_of_getElem? (i := 52) rfl))))) rfl)
set_option maxRecDepth 50000 in
theorem wsX8_settles : Cond.selects RX8 yX8_settles yX8_settles ∈ gw := (gw_of (List.mem_append_right _ (List.mem_append_right _ (List.mem_append_right _ (List.mem_append_left _ (List.mem_of_getElem? (i := 53) rfl))))) rfl)
def mX8_goneRound : MD := (yX8_goneRound, cX8_goneRound, 5, (some .int), 4, 95)
set_option maxRecDepth 50000 in
theorem mwX8_goneRound : MW mX8_goneRound := ⟨(gw_of (List.mem_append_right _ (List.mem_append_right _ (List.mem_append_right _ (List.mem_append_left _ (List.mem_of_getElem? (i := 62) rfl))))) rfl), (gw_of (List.mem_append_right _ (List.mem_append_left _ (List.mem_of_getElem? (i := 1) rfl))) rfl), by decide +kernel, by decide +kernel, by decide +kernel⟩
set_option maxRecDepth 50000 in
theorem wiX8_goneRound : Cond.instanceMethod yX8_goneRound ∈ gw := (gw_of (List.mem_append_right _ (List.mem_append_right _ (List.mem_append_right _ (List.mem_append_left _ (List.mem_of_getElem? (i := 61) rfl))))) rfl)
set_option maxRecDepth 50000 in
theorem wsX8_goneRound : Cond.selects RX8 yX8_goneRound yX8_goneRound ∈ gw := (gw_of (List.mem_append_left _ (List.mem_of_getElem? (i := 20) rfl)) rfl)
def mX8_round : MD := (yX8_round, cX8_round, 7, (some .int), 5, 119)
set_option maxRecDepth 50000 in
theorem mwX8_round : MW mX8_round := ⟨(gw_of (List.mem_append_right _ (List.mem_append_right _ (List.mem_append_right _ (List.mem_append_left _ (List.mem_of_getElem? (i := 58) rfl))))) rfl), (gw_of (List.mem_append_right _ (List.mem_append_left _ (List.mem_of_getElem? (i := 1) rfl))) rfl), by decide +kernel, by decide +kernel, by decide +kernel⟩
set_option maxRecDepth 50000 in
theorem wiX8_round : Cond.instanceMethod yX8_round ∈ gw := (gw_of (List.mem_append_right _ (List.mem_append_right _ (List.mem_append_right _ (List.mem_append_left _ (List.mem_of_getElem? (i := 56) rfl))))) rfl)
set_option maxRecDepth 50000 in
theorem wsX8_round : Cond.selects RX8 yX8_round yX8_round ∈ gw := (gw_of (List.mem_append_right _ (List.mem_append_right _ (List.mem_append_right _ (List.mem_append_left _ (List.mem_of_getElem? (i := 57) rfl))))) rfl)
def mX8_hides : MD := (yX8_hides, cX8_hides, 8, (some .int), 5, 119)
set_option maxRecDepth 50000 in
theorem mwX8_hides : MW mX8_hides := ⟨(gw_of (List.mem_append_right _ (List.mem_append_right _ (List.mem_append_right _ (List.mem_append_left _ (List.mem_of_getElem? (i := 66) rfl))))) rfl), (gw_of (List.mem_append_right _ (List.mem_append_left _ (List.mem_of_getElem? (i := 1) rfl))) rfl), by decide +kernel, by decide +kernel, by decide +kernel⟩
set_option maxRecDepth 50000 in
theorem wiX8_hides : Cond.instanceMethod yX8_hides ∈ gw := (gw_of (List.mem_append_right _ (List.mem_append_right _ (List.mem_append_right _ (List.mem_append_left _ (List.mem_of_getElem? (i := 64) rfl))))) rfl)
set_option maxRecDepth 50000 in
theorem wsX8_hides : Cond.selects RX8 yX8_hides yX8_hides ∈ gw := (gw_of (List.mem_append_right _ (List.mem_append_right _ (List.mem_append_right _ (List.mem_append_left _ (List.mem_of_getElem? (i := 65) rfl))))) rfl)
def mX8_check : MD := (yX8_check, cX8_check, 5, (some .int), 1, 21)
set_option maxRecDepth 50000 in
theorem mwX8_check : MW mX8_check := ⟨(gw_of (List.mem_append_right _ (List.mem_append_right _ (List.mem_append_right _ (List.mem_append_left _ (List.mem_of_getElem? (i := 70) rfl))))) rfl), (gw_of (List.mem_append_right _ (List.mem_append_left _ (List.mem_of_getElem? (i := 1) rfl))) rfl), by decide +kernel, by decide +kernel, by decide +kernel⟩
set_option maxRecDepth 50000 in
theorem wiX8_check : Cond.instanceMethod yX8_check ∈ gw := (gw_of (List.mem_append_right _ (List.mem_append_right _ (List.mem_append_right _ (List.mem_append_left _ (List.mem_of_getElem? (i := 68) rfl))))) rfl)
set_option maxRecDepth 50000 in
theorem wsX8_check : Cond.selects RX8 yX8_check yX8_check ∈ gw := (gw_of (List.mem_append_right _ (List.mem_append_right _ (List.mem_append_right _ (List.mem_append_left _ (List.mem_of_getElem? (i := 69) rfl))))) rfl)
def mX8_chainLength : MD := (yX8_chainLength, cX8_chainLength, 4, (some .int), 1, 21)
set_option maxRecDepth 50000 in
theorem mwX8_chainLength : MW mX8_chainLength := ⟨(gw_of (List.mem_append_right _ (List.mem_append_right _ (List.mem_append_right _ (List.mem_append_left _ (List.mem_of_getElem? (i := 78) rfl))))) rfl), (gw_of (List.mem_append_right _ (List.mem_append_left _ (List.mem_of_getElem? (i := 1) rfl))) rfl), by decide +kernel, by decide +kernel, by decide +kernel⟩
set_option maxRecDepth 50000 in
theorem wiX8_chainLength : Cond.instanceMethod yX8_chainLength ∈ gw := (gw_of (List.mem_append_right _ (List.mem_append_right _ (List.mem_append_right _ (List.mem_append_left _ (List.mem_of_getElem? (i := 77) rfl))))) rfl)
set_option maxRecDepth 50000 in
theorem wsX8_chainLength : Cond.selects RX8 yX8_chainLength yX8_chainLength ∈ gw := (gw_of (List.mem_append_left _ (List.mem_of_getElem? (i := 21) rfl)) rfl)
def mX8_chainAt : MD := (yX8_chainAt, cX8_chainAt, 6, (some .int), 1, 21)
set_option maxRecDepth 50000 in
theorem mwX8_chainAt : MW mX8_chainAt := ⟨(gw_of (List.mem_append_right _ (List.mem_append_right _ (List.mem_append_right _ (List.mem_append_left _ (List.mem_of_getElem? (i := 82) rfl))))) rfl), (gw_of (List.mem_append_right _ (List.mem_append_left _ (List.mem_of_getElem? (i := 1) rfl))) rfl), by decide +kernel, by decide +kernel, by decide +kernel⟩
set_option maxRecDepth 50000 in
theorem wiX8_chainAt : Cond.instanceMethod yX8_chainAt ∈ gw := (gw_of (List.mem_append_right _ (List.mem_append_right _ (List.mem_append_right _ (List.mem_append_left _ (List.mem_of_getElem? (i := 81) rfl))))) rfl)
set_option maxRecDepth 50000 in
theorem wsX8_chainAt : Cond.selects RX8 yX8_chainAt yX8_chainAt ∈ gw := (gw_of (List.mem_append_left _ (List.mem_of_getElem? (i := 22) rfl)) rfl)
def mX8_chain : MD := (yX8_chain, cX8_chain, 4, (some .int), 2, 46)
set_option maxRecDepth 50000 in
theorem mwX8_chain : MW mX8_chain := ⟨(gw_of (List.mem_append_right _ (List.mem_append_right _ (List.mem_append_right _ (List.mem_append_left _ (List.mem_of_getElem? (i := 74) rfl))))) rfl), (gw_of (List.mem_append_right _ (List.mem_append_left _ (List.mem_of_getElem? (i := 1) rfl))) rfl), by decide +kernel, by decide +kernel, by decide +kernel⟩
set_option maxRecDepth 50000 in
theorem wiX8_chain : Cond.instanceMethod yX8_chain ∈ gw := (gw_of (List.mem_append_right _ (List.mem_append_right _ (List.mem_append_right _ (List.mem_append_left _ (List.mem_of_getElem? (i := 72) rfl))))) rfl)
set_option maxRecDepth 50000 in
theorem wsX8_chain : Cond.selects RX8 yX8_chain yX8_chain ∈ gw := (gw_of (List.mem_append_right _ (List.mem_append_right _ (List.mem_append_right _ (List.mem_append_left _ (List.mem_of_getElem? (i := 73) rfl))))) rfl)
def mX8_chainEnd : MD := (yX8_chainEnd, cX8_chainEnd, 2, (some .int), 2, 46)
set_option maxRecDepth 50000 in
theorem mwX8_chainEnd : MW mX8_chainEnd := ⟨(gw_of (List.mem_append_right _ (List.mem_append_right _ (List.mem_append_right _ (List.mem_append_left _ (List.mem_of_getElem? (i := 94) rfl))))) rfl), (gw_of (List.mem_append_right _ (List.mem_append_left _ (List.mem_of_getElem? (i := 1) rfl))) rfl), by decide +kernel, by decide +kernel, by decide +kernel⟩
set_option maxRecDepth 50000 in
theorem wiX8_chainEnd : Cond.instanceMethod yX8_chainEnd ∈ gw := (gw_of (List.mem_append_right _ (List.mem_append_right _ (List.mem_append_right _ (List.mem_append_left _ (List.mem_of_getElem? (i := 93) rfl))))) rfl)
set_option maxRecDepth 50000 in
theorem wsX8_chainEnd : Cond.selects RX8 yX8_chainEnd yX8_chainEnd ∈ gw := (gw_of (List.mem_append_left _ (List.mem_of_getElem? (i := 24) rfl)) rfl)
def mX8_isSealed : MD := (yX8_isSealed, cX8_isSealed, 4, (some .boolean), 3, 67)
set_option maxRecDepth 50000 in
theorem mwX8_isSealed : MW mX8_isSealed := ⟨(gw_of (List.mem_append_right _ (List.mem_append_right _ (List.mem_append_right _ (List.mem_append_left _ (List.mem_of_getElem? (i := 90) rfl))))) rfl), (gw_of (List.mem_append_right _ (List.mem_append_left _ (List.mem_of_getElem? (i := 1) rfl))) rfl), by decide +kernel, by decide +kernel, by decide +kernel⟩
set_option maxRecDepth 50000 in
theorem wiX8_isSealed : Cond.instanceMethod yX8_isSealed ∈ gw := (gw_of (List.mem_append_right _ (List.mem_append_right _ (List.mem_append_right _ (List.mem_append_left _ (List.mem_of_getElem? (i := 89) rfl))))) rfl)
set_option maxRecDepth 50000 in
theorem wsX8_isSealed : Cond.selects RX8 yX8_isSealed yX8_isSealed ∈ gw := (gw_of (List.mem_append_left _ (List.mem_of_getElem? (i := 23) rfl)) rfl)
def mX8_sealed : MD := (yX8_sealed, cX8_sealed, 2, (some .int), 9, 211)
set_option maxRecDepth 50000 in
theorem mwX8_sealed : MW mX8_sealed := ⟨(gw_of (List.mem_append_right _ (List.mem_append_right _ (List.mem_append_right _ (List.mem_append_left _ (List.mem_of_getElem? (i := 86) rfl))))) rfl), (gw_of (List.mem_append_right _ (List.mem_append_left _ (List.mem_of_getElem? (i := 1) rfl))) rfl), by decide +kernel, by decide +kernel, by decide +kernel⟩
set_option maxRecDepth 50000 in
theorem wiX8_sealed : Cond.instanceMethod yX8_sealed ∈ gw := (gw_of (List.mem_append_right _ (List.mem_append_right _ (List.mem_append_right _ (List.mem_append_left _ (List.mem_of_getElem? (i := 84) rfl))))) rfl)
set_option maxRecDepth 50000 in
theorem wsX8_sealed : Cond.selects RX8 yX8_sealed yX8_sealed ∈ gw := (gw_of (List.mem_append_right _ (List.mem_append_right _ (List.mem_append_right _ (List.mem_append_left _ (List.mem_of_getElem? (i := 85) rfl))))) rfl)
def mX8_least : MD := (yX8_least, cX8_least, 7, (some .int), 9, 211)
set_option maxRecDepth 50000 in
theorem mwX8_least : MW mX8_least := ⟨(gw_of (List.mem_append_right _ (List.mem_append_right _ (List.mem_append_right _ (List.mem_append_left _ (List.mem_of_getElem? (i := 98) rfl))))) rfl), (gw_of (List.mem_append_right _ (List.mem_append_left _ (List.mem_of_getElem? (i := 1) rfl))) rfl), by decide +kernel, by decide +kernel, by decide +kernel⟩
set_option maxRecDepth 50000 in
theorem wiX8_least : Cond.instanceMethod yX8_least ∈ gw := (gw_of (List.mem_append_right _ (List.mem_append_right _ (List.mem_append_right _ (List.mem_append_left _ (List.mem_of_getElem? (i := 96) rfl))))) rfl)
set_option maxRecDepth 50000 in
theorem wsX8_least : Cond.selects RX8 yX8_least yX8_least ∈ gw := (gw_of (List.mem_append_right _ (List.mem_append_right _ (List.mem_append_right _ (List.mem_append_left _ (List.mem_of_getElem? (i := 97) rfl))))) rfl)
def mX8_same : MD := (yX8_same, cX8_same, 5, (some .int), 2, 47)
set_option maxRecDepth 50000 in
theorem mwX8_same : MW mX8_same := ⟨(gw_of (List.mem_append_right _ (List.mem_append_right _ (List.mem_append_right _ (List.mem_append_left _ (List.mem_of_getElem? (i := 102) rfl))))) rfl), (gw_of (List.mem_append_right _ (List.mem_append_left _ (List.mem_of_getElem? (i := 1) rfl))) rfl), by decide +kernel, by decide +kernel, by decide +kernel⟩
set_option maxRecDepth 50000 in
theorem wiX8_same : Cond.instanceMethod yX8_same ∈ gw := (gw_of (List.mem_append_right _ (List.mem_append_right _ (List.mem_append_right _ (List.mem_append_left _ (List.mem_of_getElem? (i := 100) rfl))))) rfl)
set_option maxRecDepth 50000 in
theorem wsX8_same : Cond.selects RX8 yX8_same yX8_same ∈ gw := (gw_of (List.mem_append_right _ (List.mem_append_right _ (List.mem_append_right _ (List.mem_append_left _ (List.mem_of_getElem? (i := 101) rfl))))) rfl)
def mX8_edition : MD := (yX8_edition, cX8_edition, 3, (some .int), 1, 22)
set_option maxRecDepth 50000 in
theorem mwX8_edition : MW mX8_edition := ⟨(gw_of (List.mem_append_right _ (List.mem_append_right _ (List.mem_append_right _ (List.mem_append_left _ (List.mem_of_getElem? (i := 106) rfl))))) rfl), (gw_of (List.mem_append_right _ (List.mem_append_left _ (List.mem_of_getElem? (i := 1) rfl))) rfl), by decide +kernel, by decide +kernel, by decide +kernel⟩
set_option maxRecDepth 50000 in
theorem wiX8_edition : Cond.instanceMethod yX8_edition ∈ gw := (gw_of (List.mem_append_right _ (List.mem_append_right _ (List.mem_append_right _ (List.mem_append_left _ (List.mem_of_getElem? (i := 104) rfl))))) rfl)
set_option maxRecDepth 50000 in
theorem wsX8_edition : Cond.selects RX8 yX8_edition yX8_edition ∈ gw := (gw_of (List.mem_append_right _ (List.mem_append_right _ (List.mem_append_right _ (List.mem_append_left _ (List.mem_of_getElem? (i := 105) rfl))))) rfl)
def mX8_ladder : MD := (yX8_ladder, cX8_ladder, 5, (some .int), 4, 91)
set_option maxRecDepth 50000 in
theorem mwX8_ladder : MW mX8_ladder := ⟨(gw_of (List.mem_append_right _ (List.mem_append_right _ (List.mem_append_right _ (List.mem_append_left _ (List.mem_of_getElem? (i := 115) rfl))))) rfl), (gw_of (List.mem_append_right _ (List.mem_append_left _ (List.mem_of_getElem? (i := 1) rfl))) rfl), by decide +kernel, by decide +kernel, by decide +kernel⟩
set_option maxRecDepth 50000 in
theorem wiX8_ladder : Cond.instanceMethod yX8_ladder ∈ gw := (gw_of (List.mem_append_right _ (List.mem_append_right _ (List.mem_append_right _ (List.mem_append_left _ (List.mem_of_getElem? (i := 113) rfl))))) rfl)
set_option maxRecDepth 50000 in
theorem wsX8_ladder : Cond.selects RX8 yX8_ladder yX8_ladder ∈ gw := (gw_of (List.mem_append_right _ (List.mem_append_right _ (List.mem_append_right _ (List.mem_append_left _ (List.mem_of_getElem? (i := 114) rfl))))) rfl)
def mX8_needed : MD := (yX8_needed, cX8_needed, 8, (some .int), 4, 91)
set_option maxRecDepth 50000 in
theorem mwX8_needed : MW mX8_needed := ⟨(gw_of (List.mem_append_right _ (List.mem_append_right _ (List.mem_append_right _ (List.mem_append_left _ (List.mem_of_getElem? (i := 140) rfl))))) rfl), (gw_of (List.mem_append_right _ (List.mem_append_left _ (List.mem_of_getElem? (i := 1) rfl))) rfl), by decide +kernel, by decide +kernel, by decide +kernel⟩
set_option maxRecDepth 50000 in
theorem wiX8_needed : Cond.instanceMethod yX8_needed ∈ gw := (gw_of (List.mem_append_right _ (List.mem_append_right _ (List.mem_append_right _ (List.mem_append_left _ (List.mem_of_getElem? (i := 138) rfl))))) rfl)
set_option maxRecDepth 50000 in
theorem wsX8_needed : Cond.selects RX8 yX8_needed yX8_needed ∈ gw := (gw_of (List.mem_append_right _ (List.mem_append_right _ (List.mem_append_right _ (List.mem_append_left _ (List.mem_of_getElem? (i := 139) rfl))))) rfl)
def mX8_asTool : MD := (yX8_asTool, cX8_asTool, 2, (some .int), 0, 0)
set_option maxRecDepth 50000 in
theorem mwX8_asTool : MW mX8_asTool := ⟨(gw_of (List.mem_append_right _ (List.mem_append_right _ (List.mem_append_right _ (List.mem_append_left _ (List.mem_of_getElem? (i := 148) rfl))))) rfl), (gw_of (List.mem_append_right _ (List.mem_append_left _ (List.mem_of_getElem? (i := 1) rfl))) rfl), by decide +kernel, by decide +kernel, by decide +kernel⟩
set_option maxRecDepth 50000 in
theorem wiX8_asTool : Cond.instanceMethod yX8_asTool ∈ gw := (gw_of (List.mem_append_right _ (List.mem_append_right _ (List.mem_append_right _ (List.mem_append_left _ (List.mem_of_getElem? (i := 147) rfl))))) rfl)
set_option maxRecDepth 50000 in
theorem wsX8_asTool : Cond.selects RX8 yX8_asTool yX8_asTool ∈ gw := (gw_of (List.mem_append_left _ (List.mem_of_getElem? (i := 27) rfl)) rfl)
def mX8_asPaired : MD := (yX8_asPaired, cX8_asPaired, 2, (some .int), 1, 21)
set_option maxRecDepth 50000 in
theorem mwX8_asPaired : MW mX8_asPaired := ⟨(gw_of (List.mem_append_right _ (List.mem_append_right _ (List.mem_append_right _ (List.mem_append_left _ (List.mem_of_getElem? (i := 152) rfl))))) rfl), (gw_of (List.mem_append_right _ (List.mem_append_left _ (List.mem_of_getElem? (i := 1) rfl))) rfl), by decide +kernel, by decide +kernel, by decide +kernel⟩
set_option maxRecDepth 50000 in
theorem wiX8_asPaired : Cond.instanceMethod yX8_asPaired ∈ gw := (gw_of (List.mem_append_right _ (List.mem_append_right _ (List.mem_append_right _ (List.mem_append_left _ (List.mem_of_getElem? (i := 151) rfl))))) rfl)
set_option maxRecDepth 50000 in
theorem wsX8_asPaired : Cond.selects RX8 yX8_asPaired yX8_asPaired ∈ gw := (gw_of (List.mem_append_left _ (List.mem_of_getElem? (i := 28) rfl)) rfl)
def mX8_asNamed : MD := (yX8_asNamed, cX8_asNamed, 2, (some .int), 2, 43)
set_option maxRecDepth 50000 in
theorem mwX8_asNamed : MW mX8_asNamed := ⟨(gw_of (List.mem_append_right _ (List.mem_append_right _ (List.mem_append_right _ (List.mem_append_left _ (List.mem_of_getElem? (i := 157) rfl))))) rfl), (gw_of (List.mem_append_right _ (List.mem_append_left _ (List.mem_of_getElem? (i := 1) rfl))) rfl), by decide +kernel, by decide +kernel, by decide +kernel⟩
set_option maxRecDepth 50000 in
theorem wiX8_asNamed : Cond.instanceMethod yX8_asNamed ∈ gw := (gw_of (List.mem_append_right _ (List.mem_append_right _ (List.mem_append_right _ (List.mem_append_left _ (List.mem_of_getElem? (i := 156) rfl))))) rfl)
set_option maxRecDepth 50000 in
theorem wsX8_asNamed : Cond.selects RX8 yX8_asNamed yX8_asNamed ∈ gw := (gw_of (List.mem_append_left _ (List.mem_of_getElem? (i := 29) rfl)) rfl)
def mX8_asBuilt : MD := (yX8_asBuilt, cX8_asBuilt, 3, (some .int), 3, 64)
set_option maxRecDepth 50000 in
theorem mwX8_asBuilt : MW mX8_asBuilt := ⟨(gw_of (List.mem_append_right _ (List.mem_append_right _ (List.mem_append_right _ (List.mem_append_left _ (List.mem_of_getElem? (i := 166) rfl))))) rfl), (gw_of (List.mem_append_right _ (List.mem_append_left _ (List.mem_of_getElem? (i := 1) rfl))) rfl), by decide +kernel, by decide +kernel, by decide +kernel⟩
set_option maxRecDepth 50000 in
theorem wiX8_asBuilt : Cond.instanceMethod yX8_asBuilt ∈ gw := (gw_of (List.mem_append_right _ (List.mem_append_right _ (List.mem_append_right _ (List.mem_append_left _ (List.mem_of_getElem? (i := 165) rfl))))) rfl)
set_option maxRecDepth 50000 in
theorem wsX8_asBuilt : Cond.selects RX8 yX8_asBuilt yX8_asBuilt ∈ gw := (gw_of (List.mem_append_left _ (List.mem_of_getElem? (i := 30) rfl)) rfl)
def mX8_asSealed : MD := (yX8_asSealed, cX8_asSealed, 3, (some .int), 4, 86)
set_option maxRecDepth 50000 in
theorem mwX8_asSealed : MW mX8_asSealed := ⟨(gw_of (List.mem_append_right _ (List.mem_append_right _ (List.mem_append_right _ (List.mem_append_left _ (List.mem_of_getElem? (i := 171) rfl))))) rfl), (gw_of (List.mem_append_right _ (List.mem_append_left _ (List.mem_of_getElem? (i := 1) rfl))) rfl), by decide +kernel, by decide +kernel, by decide +kernel⟩
set_option maxRecDepth 50000 in
theorem wiX8_asSealed : Cond.instanceMethod yX8_asSealed ∈ gw := (gw_of (List.mem_append_right _ (List.mem_append_right _ (List.mem_append_right _ (List.mem_append_left _ (List.mem_of_getElem? (i := 170) rfl))))) rfl)
set_option maxRecDepth 50000 in
theorem wsX8_asSealed : Cond.selects RX8 yX8_asSealed yX8_asSealed ∈ gw := (gw_of (List.mem_append_left _ (List.mem_of_getElem? (i := 31) rfl)) rfl)
def mX8_asDoubted : MD := (yX8_asDoubted, cX8_asDoubted, 2, (some .int), 1, 21)
set_option maxRecDepth 50000 in
theorem mwX8_asDoubted : MW mX8_asDoubted := ⟨(gw_of (List.mem_append_right _ (List.mem_append_right _ (List.mem_append_right _ (List.mem_append_left _ (List.mem_of_getElem? (i := 176) rfl))))) rfl), (gw_of (List.mem_append_right _ (List.mem_append_left _ (List.mem_of_getElem? (i := 1) rfl))) rfl), by decide +kernel, by decide +kernel, by decide +kernel⟩
set_option maxRecDepth 50000 in
theorem wiX8_asDoubted : Cond.instanceMethod yX8_asDoubted ∈ gw := (gw_of (List.mem_append_right _ (List.mem_append_right _ (List.mem_append_right _ (List.mem_append_left _ (List.mem_of_getElem? (i := 175) rfl))))) rfl)
set_option maxRecDepth 50000 in
theorem wsX8_asDoubted : Cond.selects RX8 yX8_asDoubted yX8_asDoubted ∈ gw := (gw_of (List.mem_append_left _ (List.mem_of_getElem? (i := 32) rfl)) rfl)
def mX8_weight : MD := (yX8_weight, cX8_weight, 4, (some .int), 5, 108)
set_option maxRecDepth 50000 in
theorem mwX8_weight : MW mX8_weight := ⟨(gw_of (List.mem_append_right _ (List.mem_append_right _ (List.mem_append_right _ (List.mem_append_left _ (List.mem_of_getElem? (i := 144) rfl))))) rfl), (gw_of (List.mem_append_right _ (List.mem_append_left _ (List.mem_of_getElem? (i := 1) rfl))) rfl), by decide +kernel, by decide +kernel, by decide +kernel⟩
set_option maxRecDepth 50000 in
theorem wiX8_weight : Cond.instanceMethod yX8_weight ∈ gw := (gw_of (List.mem_append_right _ (List.mem_append_right _ (List.mem_append_right _ (List.mem_append_left _ (List.mem_of_getElem? (i := 142) rfl))))) rfl)
set_option maxRecDepth 50000 in
theorem wsX8_weight : Cond.selects RX8 yX8_weight yX8_weight ∈ gw := (gw_of (List.mem_append_right _ (List.mem_append_right _ (List.mem_append_right _ (List.mem_append_left _ (List.mem_of_getElem? (i := 143) rfl))))) rfl)
def mX8_checkedTools : MD := (yX8_checkedTools, cX8_checkedTools, 4, (some .int), 1, 21)
set_option maxRecDepth 50000 in
theorem mwX8_checkedTools : MW mX8_checkedTools := ⟨(gw_of (List.mem_append_right _ (List.mem_append_right _ (List.mem_append_right _ (List.mem_append_left _ (List.mem_of_getElem? (i := 185) rfl))))) rfl), (gw_of (List.mem_append_right _ (List.mem_append_left _ (List.mem_of_getElem? (i := 1) rfl))) rfl), by decide +kernel, by decide +kernel, by decide +kernel⟩
set_option maxRecDepth 50000 in
theorem wiX8_checkedTools : Cond.instanceMethod yX8_checkedTools ∈ gw := (gw_of (List.mem_append_right _ (List.mem_append_right _ (List.mem_append_right _ (List.mem_append_left _ (List.mem_of_getElem? (i := 184) rfl))))) rfl)
set_option maxRecDepth 50000 in
theorem wsX8_checkedTools : Cond.selects RX8 yX8_checkedTools yX8_checkedTools ∈ gw := (gw_of (List.mem_append_left _ (List.mem_of_getElem? (i := 33) rfl)) rfl)
def mX8_sealedTools : MD := (yX8_sealedTools, cX8_sealedTools, 4, (some .int), 4, 90)
set_option maxRecDepth 50000 in
theorem mwX8_sealedTools : MW mX8_sealedTools := ⟨(gw_of (List.mem_append_right _ (List.mem_append_right _ (List.mem_append_right _ (List.mem_append_left _ (List.mem_of_getElem? (i := 189) rfl))))) rfl), (gw_of (List.mem_append_right _ (List.mem_append_left _ (List.mem_of_getElem? (i := 1) rfl))) rfl), by decide +kernel, by decide +kernel, by decide +kernel⟩
set_option maxRecDepth 50000 in
theorem wiX8_sealedTools : Cond.instanceMethod yX8_sealedTools ∈ gw := (gw_of (List.mem_append_right _ (List.mem_append_right _ (List.mem_append_right _ (List.mem_append_left _ (List.mem_of_getElem? (i := 188) rfl))))) rfl)
set_option maxRecDepth 50000 in
theorem wsX8_sealedTools : Cond.selects RX8 yX8_sealedTools yX8_sealedTools ∈ gw := (gw_of (List.mem_append_left _ (List.mem_of_getElem? (i := 34) rfl)) rfl)
def mX8_count : MD := (yX8_count, cX8_count, 2, (some .int), 9, 211)
set_option maxRecDepth 50000 in
theorem mwX8_count : MW mX8_count := ⟨(gw_of (List.mem_append_right _ (List.mem_append_right _ (List.mem_append_right _ (List.mem_append_left _ (List.mem_of_getElem? (i := 181) rfl))))) rfl), (gw_of (List.mem_append_right _ (List.mem_append_left _ (List.mem_of_getElem? (i := 1) rfl))) rfl), by decide +kernel, by decide +kernel, by decide +kernel⟩
set_option maxRecDepth 50000 in
theorem wiX8_count : Cond.instanceMethod yX8_count ∈ gw := (gw_of (List.mem_append_right _ (List.mem_append_right _ (List.mem_append_right _ (List.mem_append_left _ (List.mem_of_getElem? (i := 179) rfl))))) rfl)
set_option maxRecDepth 50000 in
theorem wsX8_count : Cond.selects RX8 yX8_count yX8_count ∈ gw := (gw_of (List.mem_append_right _ (List.mem_append_right _ (List.mem_append_right _ (List.mem_append_left _ (List.mem_of_getElem? (i := 180) rfl))))) rfl)
def mX8_trace : MD := (yX8_trace, cX8_trace, 1, (some .long), 0, 0)
set_option maxRecDepth 50000 in
theorem mwX8_trace : MW mX8_trace := ⟨(gw_of (List.mem_append_right _ (List.mem_append_right _ (List.mem_append_right _ (List.mem_append_left _ (List.mem_of_getElem? (i := 193) rfl))))) rfl), (gw_of (List.mem_append_right _ (List.mem_append_left _ (List.mem_of_getElem? (i := 1) rfl))) rfl), by decide +kernel, by decide +kernel, by decide +kernel⟩
set_option maxRecDepth 50000 in
theorem wiX8_trace : Cond.instanceMethod yX8_trace ∈ gw := (gw_of (List.mem_append_right _ (List.mem_append_right _ (List.mem_append_right _ (List.mem_append_left _ (List.mem_of_getElem? (i := 191) rfl))))) rfl)
set_option maxRecDepth 50000 in
theorem wsX8_trace : Cond.selects RX8 yX8_trace yX8_trace ∈ gw := (gw_of (List.mem_append_right _ (List.mem_append_right _ (List.mem_append_right _ (List.mem_append_left _ (List.mem_of_getElem? (i := 192) rfl))))) rfl)
def mX9_init : MD := (yX9_init, cX9_init, 1, (none : Option Jvm.ClassFile.FieldType), 1, 24)
set_option maxRecDepth 50000 in
theorem mwX9_init : MW mX9_init := ⟨(gw_of (List.mem_append_right _ (List.mem_append_right _ (List.mem_append_right _ (List.mem_append_left _ (List.mem_of_getElem? (i := 198) rfl))))) rfl), (gw_of (List.mem_append_right _ (List.mem_append_left _ (List.mem_of_getElem? (i := 10) rfl))) rfl), by decide +kernel, by decide +kernel, by decide +kernel⟩
set_option maxRecDepth 50000 in
theorem wiX9_init : Cond.instanceMethod yX9_init ∈ gw := (gw_of (List.mem_append_right _ (List.mem_append_right _ (List.mem_append_right _ (List.mem_append_left _ (List.mem_of_getElem? (i := 197) rfl))))) rfl)
def mX9_in : MD := (yX9_in, cX9_in, 3, (some .boolean), 0, 0)
set_option maxRecDepth 50000 in
theorem mwX9_in : MW mX9_in := ⟨(gw_of (List.mem_append_right _ (List.mem_append_right _ (List.mem_append_right _ (List.mem_append_right _ (List.mem_append_left _ (List.mem_of_getElem? (i := 84) rfl)))))) rfl), (gw_of (List.mem_append_right _ (List.mem_append_left _ (List.mem_of_getElem? (i := 10) rfl))) rfl), by decide +kernel, by decide +kernel, by decide +kernel⟩
set_option maxRecDepth 50000 in
theorem wtX9_in : Cond.static yX9_in ∈ gw := (gw_of (List.mem_append_right _ (List.mem_append_right _ (List.mem_append_right _ (List.mem_append_right _ (List.mem_append_left _ (List.mem_of_getElem? (i := 83) rfl)))))) rfl)
def mX9_type : MD := (yX9_type, cX9_type, 5, (some .int), 1, 22)
set_option maxRecDepth 50000 in
theorem mwX9_type : MW mX9_type := ⟨(gw_of (List.mem_append_right _ (List.mem_append_right _ (List.mem_append_right _ (List.mem_append_right _ (List.mem_append_left _ (List.mem_of_getElem? (i := 81) rfl)))))) rfl), (gw_of (List.mem_append_right _ (List.mem_append_left _ (List.mem_of_getElem? (i := 10) rfl))) rfl), by decide +kernel, by decide +kernel, by decide +kernel⟩
set_option maxRecDepth 50000 in
theorem wiX9_type : Cond.instanceMethod yX9_type ∈ gw := (gw_of (List.mem_append_right _ (List.mem_append_right _ (List.mem_append_right _ (List.mem_append_right _ (List.mem_append_left _ (List.mem_of_getElem? (i := 79) rfl)))))) rfl)
set_option maxRecDepth 50000 in
theorem wsX9_type : Cond.selects RX9 yX9_type yX9_type ∈ gw := (gw_of (List.mem_append_right _ (List.mem_append_right _ (List.mem_append_right _ (List.mem_append_right _ (List.mem_append_left _ (List.mem_of_getElem? (i := 80) rfl)))))) rfl)
def mX9_clear : MD := (yX9_clear, cX9_clear, 2, (some .int), 0, 0)
set_option maxRecDepth 50000 in
theorem mwX9_clear : MW mX9_clear := ⟨(gw_of (List.mem_append_right _ (List.mem_append_right _ (List.mem_append_right _ (List.mem_append_right _ (List.mem_append_left _ (List.mem_of_getElem? (i := 89) rfl)))))) rfl), (gw_of (List.mem_append_right _ (List.mem_append_left _ (List.mem_of_getElem? (i := 10) rfl))) rfl), by decide +kernel, by decide +kernel, by decide +kernel⟩
set_option maxRecDepth 50000 in
theorem wiX9_clear : Cond.instanceMethod yX9_clear ∈ gw := (gw_of (List.mem_append_right _ (List.mem_append_right _ (List.mem_append_right _ (List.mem_append_right _ (List.mem_append_left _ (List.mem_of_getElem? (i := 87) rfl)))))) rfl)
set_option maxRecDepth 50000 in
theorem wsX9_clear : Cond.selects RX9 yX9_clear yX9_clear ∈ gw := (gw_of (List.mem_append_right _ (List.mem_append_right _ (List.mem_append_right _ (List.mem_append_right _ (List.mem_append_left _ (List.mem_of_getElem? (i := 88) rfl)))))) rfl)
def mX9_isText : MD := (yX9_isText, cX9_isText, 1, (some .boolean), 1, 22)
set_option maxRecDepth 50000 in
theorem mwX9_isText : MW mX9_isText := ⟨(gw_of (List.mem_append_right _ (List.mem_append_right _ (List.mem_append_right _ (List.mem_append_right _ (List.mem_append_left _ (List.mem_of_getElem? (i := 96) rfl)))))) rfl), (gw_of (List.mem_append_right _ (List.mem_append_left _ (List.mem_of_getElem? (i := 10) rfl))) rfl), by decide +kernel, by decide +kernel, by decide +kernel⟩
set_option maxRecDepth 50000 in
theorem wtX9_isText : Cond.static yX9_isText ∈ gw := (gw_of (List.mem_append_right _ (List.mem_append_right _ (List.mem_append_right _ (List.mem_append_right _ (List.mem_append_left _ (List.mem_of_getElem? (i := 95) rfl)))))) rfl)
def mX9_text : MD := (yX9_text, cX9_text, 3, (some .int), 2, 42)
set_option maxRecDepth 50000 in
theorem mwX9_text : MW mX9_text := ⟨(gw_of (List.mem_append_right _ (List.mem_append_right _ (List.mem_append_right _ (List.mem_append_right _ (List.mem_append_left _ (List.mem_of_getElem? (i := 93) rfl)))))) rfl), (gw_of (List.mem_append_right _ (List.mem_append_left _ (List.mem_of_getElem? (i := 10) rfl))) rfl), by decide +kernel, by decide +kernel, by decide +kernel⟩
set_option maxRecDepth 50000 in
theorem wiX9_text : Cond.instanceMethod yX9_text ∈ gw := (gw_of (List.mem_append_right _ (List.mem_append_right _ (List.mem_append_right _ (List.mem_append_right _ (List.mem_append_left _ (List.mem_of_getElem? (i := 91) rfl)))))) rfl)
set_option maxRecDepth 50000 in
theorem wsX9_text : Cond.selects RX9 yX9_text yX9_text ∈ gw := (gw_of (List.mem_append_right _ (List.mem_append_right _ (List.mem_append_right _ (List.mem_append_right _ (List.mem_append_left _ (List.mem_of_getElem? (i := 92) rfl)))))) rfl)
def mX9_read : MD := (yX9_read, cX9_read, 3, (some .int), 2, 42)
set_option maxRecDepth 50000 in
theorem mwX9_read : MW mX9_read := ⟨(gw_of (List.mem_append_right _ (List.mem_append_right _ (List.mem_append_right _ (List.mem_append_right _ (List.mem_append_left _ (List.mem_of_getElem? (i := 100) rfl)))))) rfl), (gw_of (List.mem_append_right _ (List.mem_append_left _ (List.mem_of_getElem? (i := 10) rfl))) rfl), by decide +kernel, by decide +kernel, by decide +kernel⟩
set_option maxRecDepth 50000 in
theorem wiX9_read : Cond.instanceMethod yX9_read ∈ gw := (gw_of (List.mem_append_right _ (List.mem_append_right _ (List.mem_append_right _ (List.mem_append_right _ (List.mem_append_left _ (List.mem_of_getElem? (i := 98) rfl)))))) rfl)
set_option maxRecDepth 50000 in
theorem wsX9_read : Cond.selects RX9 yX9_read yX9_read ∈ gw := (gw_of (List.mem_append_right _ (List.mem_append_right _ (List.mem_append_right _ (List.mem_append_right _ (List.mem_append_left _ (List.mem_of_getElem? (i := 99) rfl)))))) rfl)
def mX9_isTool : MD := (yX9_isTool, cX9_isTool, 2, (some .boolean), 1, 22)
set_option maxRecDepth 50000 in
theorem mwX9_isTool : MW mX9_isTool := ⟨(gw_of (List.mem_append_right _ (List.mem_append_right _ (List.mem_append_right _ (List.mem_append_right _ (List.mem_append_left _ (List.mem_of_getElem? (i := 181) rfl)))))) rfl), (gw_of (List.mem_append_right _ (List.mem_append_left _ (List.mem_of_getElem? (i := 10) rfl))) rfl), by decide +kernel, by decide +kernel, by decide +kernel⟩
set_option maxRecDepth 50000 in
theorem wiX9_isTool : Cond.instanceMethod yX9_isTool ∈ gw := (gw_of (List.mem_append_right _ (List.mem_append_right _ (List.mem_append_right _ (List.mem_append_right _ (List.mem_append_left _ (List.mem_of_getElem? (i := 180) rfl)))))) rfl)
set_option maxRecDepth 50000 in
theorem wsX9_isTool : Cond.selects RX9 yX9_isTool yX9_isTool ∈ gw := (gw_of (List.mem_append_left _ (List.mem_of_getElem? (i := 47) rfl)) rfl)
def mX9_add : MD := (yX9_add, cX9_add, 4, (none : Option Jvm.ClassFile.FieldType), 0, 0)
set_option maxRecDepth 50000 in
theorem mwX9_add : MW mX9_add := ⟨(gw_of (List.mem_append_right _ (List.mem_append_right _ (List.mem_append_right _ (List.mem_append_right _ (List.mem_append_left _ (List.mem_of_getElem? (i := 131) rfl)))))) rfl), (gw_of (List.mem_append_right _ (List.mem_append_left _ (List.mem_of_getElem? (i := 10) rfl))) rfl), by decide +kernel, by decide +kernel, by decide +kernel⟩
set_option maxRecDepth 50000 in
theorem wiX9_add : Cond.instanceMethod yX9_add ∈ gw := (gw_of (List.mem_append_right _ (List.mem_append_right _ (List.mem_append_right _ (List.mem_append_right _ (List.mem_append_left _ (List.mem_of_getElem? (i := 130) rfl)))))) rfl)
set_option maxRecDepth 50000 in
theorem wsX9_add : Cond.selects RX9 yX9_add yX9_add ∈ gw := (gw_of (List.mem_append_left _ (List.mem_of_getElem? (i := 40) rfl)) rfl)
def mX9_here : MD := (yX9_here, cX9_here, 1, (some .int), 0, 0)
set_option maxRecDepth 50000 in
theorem mwX9_here : MW mX9_here := ⟨(gw_of (List.mem_append_right _ (List.mem_append_right _ (List.mem_append_right _ (List.mem_append_right _ (List.mem_append_left _ (List.mem_of_getElem? (i := 124) rfl)))))) rfl), (gw_of (List.mem_append_right _ (List.mem_append_left _ (List.mem_of_getElem? (i := 10) rfl))) rfl), by decide +kernel, by decide +kernel, by decide +kernel⟩
set_option maxRecDepth 50000 in
theorem wiX9_here : Cond.instanceMethod yX9_here ∈ gw := (gw_of (List.mem_append_right _ (List.mem_append_right _ (List.mem_append_right _ (List.mem_append_right _ (List.mem_append_left _ (List.mem_of_getElem? (i := 123) rfl)))))) rfl)
set_option maxRecDepth 50000 in
theorem wsX9_here : Cond.selects RX9 yX9_here yX9_here ∈ gw := (gw_of (List.mem_append_left _ (List.mem_of_getElem? (i := 39) rfl)) rfl)
def mX9_open : MD := (yX9_open, cX9_open, 2, (none : Option Jvm.ClassFile.FieldType), 0, 0)
set_option maxRecDepth 50000 in
theorem mwX9_open : MW mX9_open := ⟨(gw_of (List.mem_append_right _ (List.mem_append_right _ (List.mem_append_right _ (List.mem_append_right _ (List.mem_append_left _ (List.mem_of_getElem? (i := 116) rfl)))))) rfl), (gw_of (List.mem_append_right _ (List.mem_append_left _ (List.mem_of_getElem? (i := 10) rfl))) rfl), by decide +kernel, by decide +kernel, by decide +kernel⟩
set_option maxRecDepth 50000 in
theorem wiX9_open : Cond.instanceMethod yX9_open ∈ gw := (gw_of (List.mem_append_right _ (List.mem_append_right _ (List.mem_append_right _ (List.mem_append_right _ (List.mem_append_left _ (List.mem_of_getElem? (i := 115) rfl)))))) rfl)
set_option maxRecDepth 50000 in
theorem wsX9_open : Cond.selects RX9 yX9_open yX9_open ∈ gw := (gw_of (List.mem_append_left _ (List.mem_of_getElem? (i := 37) rfl)) rfl)
def mX9_pass : MD := (yX9_pass, cX9_pass, 3, (none : Option Jvm.ClassFile.FieldType), 1, 20)
set_option maxRecDepth 50000 in
theorem mwX9_pass : MW mX9_pass := ⟨(gw_of (List.mem_append_right _ (List.mem_append_right _ (List.mem_append_right _ (List.mem_append_right _ (List.mem_append_left _ (List.mem_of_getElem? (i := 120) rfl)))))) rfl), (gw_of (List.mem_append_right _ (List.mem_append_left _ (List.mem_of_getElem? (i := 10) rfl))) rfl), by decide +kernel, by decide +kernel, by decide +kernel⟩
set_option maxRecDepth 50000 in
theorem wiX9_pass : Cond.instanceMethod yX9_pass ∈ gw := (gw_of (List.mem_append_right _ (List.mem_append_right _ (List.mem_append_right _ (List.mem_append_right _ (List.mem_append_left _ (List.mem_of_getElem? (i := 119) rfl)))))) rfl)
set_option maxRecDepth 50000 in
theorem wsX9_pass : Cond.selects RX9 yX9_pass yX9_pass ∈ gw := (gw_of (List.mem_append_left _ (List.mem_of_getElem? (i := 38) rfl)) rfl)
def mX9_digit : MD := (yX9_digit, cX9_digit, 1, (some .int), 1, 22)
set_option maxRecDepth 50000 in
theorem mwX9_digit : MW mX9_digit := ⟨(gw_of (List.mem_append_right _ (List.mem_append_right _ (List.mem_append_right _ (List.mem_append_right _ (List.mem_append_left _ (List.mem_of_getElem? (i := 127) rfl)))))) rfl), (gw_of (List.mem_append_right _ (List.mem_append_left _ (List.mem_of_getElem? (i := 10) rfl))) rfl), by decide +kernel, by decide +kernel, by decide +kernel⟩
set_option maxRecDepth 50000 in
theorem wtX9_digit : Cond.static yX9_digit ∈ gw := (gw_of (List.mem_append_right _ (List.mem_append_right _ (List.mem_append_right _ (List.mem_append_right _ (List.mem_append_left _ (List.mem_of_getElem? (i := 126) rfl)))))) rfl)
def mX9_readPairs : MD := (yX9_readPairs, cX9_readPairs, 6, (some .int), 2, 42)
set_option maxRecDepth 50000 in
theorem mwX9_readPairs : MW mX9_readPairs := ⟨(gw_of (List.mem_append_right _ (List.mem_append_right _ (List.mem_append_right _ (List.mem_append_right _ (List.mem_append_left _ (List.mem_of_getElem? (i := 112) rfl)))))) rfl), (gw_of (List.mem_append_right _ (List.mem_append_left _ (List.mem_of_getElem? (i := 10) rfl))) rfl), by decide +kernel, by decide +kernel, by decide +kernel⟩
set_option maxRecDepth 50000 in
theorem wiX9_readPairs : Cond.instanceMethod yX9_readPairs ∈ gw := (gw_of (List.mem_append_right _ (List.mem_append_right _ (List.mem_append_right _ (List.mem_append_right _ (List.mem_append_left _ (List.mem_of_getElem? (i := 111) rfl)))))) rfl)
set_option maxRecDepth 50000 in
theorem wsX9_readPairs : Cond.selects RX9 yX9_readPairs yX9_readPairs ∈ gw := (gw_of (List.mem_append_left _ (List.mem_of_getElem? (i := 36) rfl)) rfl)
def mX9_more : MD := (yX9_more, cX9_more, 3, (some .long), 0, 0)
set_option maxRecDepth 50000 in
theorem mwX9_more : MW mX9_more := ⟨(gw_of (List.mem_append_right _ (List.mem_append_right _ (List.mem_append_right _ (List.mem_append_right _ (List.mem_append_left _ (List.mem_of_getElem? (i := 146) rfl)))))) rfl), (gw_of (List.mem_append_right _ (List.mem_append_left _ (List.mem_of_getElem? (i := 10) rfl))) rfl), by decide +kernel, by decide +kernel, by decide +kernel⟩
set_option maxRecDepth 50000 in
theorem wtX9_more : Cond.static yX9_more ∈ gw := (gw_of (List.mem_append_right _ (List.mem_append_right _ (List.mem_append_right _ (List.mem_append_right _ (List.mem_append_left _ (List.mem_of_getElem? (i := 145) rfl)))))) rfl)
def mX9_spelled : MD := (yX9_spelled, cX9_spelled, 5, (some .long), 1, 22)
set_option maxRecDepth 50000 in
theorem mwX9_spelled : MW mX9_spelled := ⟨(gw_of (List.mem_append_right _ (List.mem_append_right _ (List.mem_append_right _ (List.mem_append_right _ (List.mem_append_left _ (List.mem_of_getElem? (i := 151) rfl)))))) rfl), (gw_of (List.mem_append_right _ (List.mem_append_left _ (List.mem_of_getElem? (i := 10) rfl))) rfl), by decide +kernel, by decide +kernel, by decide +kernel⟩
set_option maxRecDepth 50000 in
theorem wtX9_spelled : Cond.static yX9_spelled ∈ gw := (gw_of (List.mem_append_right _ (List.mem_append_right _ (List.mem_append_right _ (List.mem_append_right _ (List.mem_append_left _ (List.mem_of_getElem? (i := 150) rfl)))))) rfl)
def mX9_wordOf : MD := (yX9_wordOf, cX9_wordOf, 6, (some .int), 2, 46)
set_option maxRecDepth 50000 in
theorem mwX9_wordOf : MW mX9_wordOf := ⟨(gw_of (List.mem_append_right _ (List.mem_append_right _ (List.mem_append_right _ (List.mem_append_right _ (List.mem_append_left _ (List.mem_of_getElem? (i := 143) rfl)))))) rfl), (gw_of (List.mem_append_right _ (List.mem_append_left _ (List.mem_of_getElem? (i := 10) rfl))) rfl), by decide +kernel, by decide +kernel, by decide +kernel⟩
set_option maxRecDepth 50000 in
theorem wiX9_wordOf : Cond.instanceMethod yX9_wordOf ∈ gw := (gw_of (List.mem_append_right _ (List.mem_append_right _ (List.mem_append_right _ (List.mem_append_right _ (List.mem_append_left _ (List.mem_of_getElem? (i := 142) rfl)))))) rfl)
set_option maxRecDepth 50000 in
theorem wsX9_wordOf : Cond.selects RX9 yX9_wordOf yX9_wordOf ∈ gw := (gw_of (List.mem_append_left _ (List.mem_of_getElem? (i := 43) rfl)) rfl)
def mX9_hasNumber : MD := (yX9_hasNumber, cX9_hasNumber, 1, (some .boolean), 1, 22)
set_option maxRecDepth 50000 in
theorem mwX9_hasNumber : MW mX9_hasNumber := ⟨(gw_of (List.mem_append_right _ (List.mem_append_right _ (List.mem_append_right _ (List.mem_append_right _ (List.mem_append_left _ (List.mem_of_getElem? (i := 158) rfl)))))) rfl), (gw_of (List.mem_append_right _ (List.mem_append_left _ (List.mem_of_getElem? (i := 10) rfl))) rfl), by decide +kernel, by decide +kernel, by decide +kernel⟩
set_option maxRecDepth 50000 in
theorem wtX9_hasNumber : Cond.static yX9_hasNumber ∈ gw := (gw_of (List.mem_append_right _ (List.mem_append_right _ (List.mem_append_right _ (List.mem_append_right _ (List.mem_append_left _ (List.mem_of_getElem? (i := 157) rfl)))))) rfl)
def mX9_next : MD := (yX9_next, cX9_next, 2, (none : Option Jvm.ClassFile.FieldType), 3, 71)
set_option maxRecDepth 50000 in
theorem mwX9_next : MW mX9_next := ⟨(gw_of (List.mem_append_right _ (List.mem_append_right _ (List.mem_append_right _ (List.mem_append_right _ (List.mem_append_left _ (List.mem_of_getElem? (i := 139) rfl)))))) rfl), (gw_of (List.mem_append_right _ (List.mem_append_left _ (List.mem_of_getElem? (i := 10) rfl))) rfl), by decide +kernel, by decide +kernel, by decide +kernel⟩
set_option maxRecDepth 50000 in
theorem wiX9_next : Cond.instanceMethod yX9_next ∈ gw := (gw_of (List.mem_append_right _ (List.mem_append_right _ (List.mem_append_right _ (List.mem_append_right _ (List.mem_append_left _ (List.mem_of_getElem? (i := 138) rfl)))))) rfl)
set_option maxRecDepth 50000 in
theorem wsX9_next : Cond.selects RX9 yX9_next yX9_next ∈ gw := (gw_of (List.mem_append_left _ (List.mem_of_getElem? (i := 42) rfl)) rfl)
def mX9_due : MD := (yX9_due, cX9_due, 3, (some .int), 4, 92)
set_option maxRecDepth 50000 in
theorem mwX9_due : MW mX9_due := ⟨(gw_of (List.mem_append_right _ (List.mem_append_right _ (List.mem_append_right _ (List.mem_append_right _ (List.mem_append_left _ (List.mem_of_getElem? (i := 155) rfl)))))) rfl), (gw_of (List.mem_append_right _ (List.mem_append_left _ (List.mem_of_getElem? (i := 10) rfl))) rfl), by decide +kernel, by decide +kernel, by decide +kernel⟩
set_option maxRecDepth 50000 in
theorem wiX9_due : Cond.instanceMethod yX9_due ∈ gw := (gw_of (List.mem_append_right _ (List.mem_append_right _ (List.mem_append_right _ (List.mem_append_right _ (List.mem_append_left _ (List.mem_of_getElem? (i := 154) rfl)))))) rfl)
set_option maxRecDepth 50000 in
theorem wsX9_due : Cond.selects RX9 yX9_due yX9_due ∈ gw := (gw_of (List.mem_append_left _ (List.mem_of_getElem? (i := 44) rfl)) rfl)
def mX9_readNames : MD := (yX9_readNames, cX9_readNames, 7, (some .int), 5, 114)
set_option maxRecDepth 50000 in
theorem mwX9_readNames : MW mX9_readNames := ⟨(gw_of (List.mem_append_right _ (List.mem_append_right _ (List.mem_append_right _ (List.mem_append_right _ (List.mem_append_left _ (List.mem_of_getElem? (i := 135) rfl)))))) rfl), (gw_of (List.mem_append_right _ (List.mem_append_left _ (List.mem_of_getElem? (i := 10) rfl))) rfl), by decide +kernel, by decide +kernel, by decide +kernel⟩
set_option maxRecDepth 50000 in
theorem wiX9_readNames : Cond.instanceMethod yX9_readNames ∈ gw := (gw_of (List.mem_append_right _ (List.mem_append_right _ (List.mem_append_right _ (List.mem_append_right _ (List.mem_append_left _ (List.mem_of_getElem? (i := 134) rfl)))))) rfl)
set_option maxRecDepth 50000 in
theorem wsX9_readNames : Cond.selects RX9 yX9_readNames yX9_readNames ∈ gw := (gw_of (List.mem_append_left _ (List.mem_of_getElem? (i := 41) rfl)) rfl)
def mX9_newTool : MD := (yX9_newTool, cX9_newTool, 5, (some .int), 0, 0)
set_option maxRecDepth 50000 in
theorem mwX9_newTool : MW mX9_newTool := ⟨(gw_of (List.mem_append_right _ (List.mem_append_right _ (List.mem_append_right _ (List.mem_append_right _ (List.mem_append_left _ (List.mem_of_getElem? (i := 169) rfl)))))) rfl), (gw_of (List.mem_append_right _ (List.mem_append_left _ (List.mem_of_getElem? (i := 10) rfl))) rfl), by decide +kernel, by decide +kernel, by decide +kernel⟩
set_option maxRecDepth 50000 in
theorem wiX9_newTool : Cond.instanceMethod yX9_newTool ∈ gw := (gw_of (List.mem_append_right _ (List.mem_append_right _ (List.mem_append_right _ (List.mem_append_right _ (List.mem_append_left _ (List.mem_of_getElem? (i := 168) rfl)))))) rfl)
set_option maxRecDepth 50000 in
theorem wsX9_newTool : Cond.selects RX9 yX9_newTool yX9_newTool ∈ gw := (gw_of (List.mem_append_left _ (List.mem_of_getElem? (i := 46) rfl)) rfl)
def mX9_copy : MD := (yX9_copy, cX9_copy, 4, (none : Option Jvm.ClassFile.FieldType), 0, 0)
set_option maxRecDepth 50000 in
theorem mwX9_copy : MW mX9_copy := ⟨(gw_of (List.mem_append_right _ (List.mem_append_right _ (List.mem_append_right _ (List.mem_append_right _ (List.mem_append_left _ (List.mem_of_getElem? (i := 165) rfl)))))) rfl), (gw_of (List.mem_append_right _ (List.mem_append_left _ (List.mem_of_getElem? (i := 10) rfl))) rfl), by decide +kernel, by decide +kernel, by decide +kernel⟩
set_option maxRecDepth 50000 in
theorem wtX9_copy : Cond.static yX9_copy ∈ gw := (gw_of (List.mem_append_right _ (List.mem_append_right _ (List.mem_append_right _ (List.mem_append_right _ (List.mem_append_left _ (List.mem_of_getElem? (i := 164) rfl)))))) rfl)
def mX9_move : MD := (yX9_move, cX9_move, 3, (none : Option Jvm.ClassFile.FieldType), 1, 23)
set_option maxRecDepth 50000 in
theorem mwX9_move : MW mX9_move := ⟨(gw_of (List.mem_append_right _ (List.mem_append_right _ (List.mem_append_right _ (List.mem_append_right _ (List.mem_append_left _ (List.mem_of_getElem? (i := 162) rfl)))))) rfl), (gw_of (List.mem_append_right _ (List.mem_append_left _ (List.mem_of_getElem? (i := 10) rfl))) rfl), by decide +kernel, by decide +kernel, by decide +kernel⟩
set_option maxRecDepth 50000 in
theorem wiX9_move : Cond.instanceMethod yX9_move ∈ gw := (gw_of (List.mem_append_right _ (List.mem_append_right _ (List.mem_append_right _ (List.mem_append_right _ (List.mem_append_left _ (List.mem_of_getElem? (i := 161) rfl)))))) rfl)
set_option maxRecDepth 50000 in
theorem wsX9_move : Cond.selects RX9 yX9_move yX9_move ∈ gw := (gw_of (List.mem_append_left _ (List.mem_of_getElem? (i := 45) rfl)) rfl)
def mX9_make : MD := (yX9_make, cX9_make, 4, (some .int), 6, 140)
set_option maxRecDepth 50000 in
theorem mwX9_make : MW mX9_make := ⟨(gw_of (List.mem_append_right _ (List.mem_append_right _ (List.mem_append_right _ (List.mem_append_right _ (List.mem_append_left _ (List.mem_of_getElem? (i := 108) rfl)))))) rfl), (gw_of (List.mem_append_right _ (List.mem_append_left _ (List.mem_of_getElem? (i := 10) rfl))) rfl), by decide +kernel, by decide +kernel, by decide +kernel⟩
set_option maxRecDepth 50000 in
theorem wiX9_make : Cond.instanceMethod yX9_make ∈ gw := (gw_of (List.mem_append_right _ (List.mem_append_right _ (List.mem_append_right _ (List.mem_append_right _ (List.mem_append_left _ (List.mem_of_getElem? (i := 107) rfl)))))) rfl)
set_option maxRecDepth 50000 in
theorem wsX9_make : Cond.selects RX9 yX9_make yX9_make ∈ gw := (gw_of (List.mem_append_left _ (List.mem_of_getElem? (i := 35) rfl)) rfl)
def mX9_pairs : MD := (yX9_pairs, cX9_pairs, 2, (some .int), 7, 163)
set_option maxRecDepth 50000 in
theorem mwX9_pairs : MW mX9_pairs := ⟨(gw_of (List.mem_append_right _ (List.mem_append_right _ (List.mem_append_right _ (List.mem_append_right _ (List.mem_append_left _ (List.mem_of_getElem? (i := 104) rfl)))))) rfl), (gw_of (List.mem_append_right _ (List.mem_append_left _ (List.mem_of_getElem? (i := 10) rfl))) rfl), by decide +kernel, by decide +kernel, by decide +kernel⟩
set_option maxRecDepth 50000 in
theorem wiX9_pairs : Cond.instanceMethod yX9_pairs ∈ gw := (gw_of (List.mem_append_right _ (List.mem_append_right _ (List.mem_append_right _ (List.mem_append_right _ (List.mem_append_left _ (List.mem_of_getElem? (i := 102) rfl)))))) rfl)
set_option maxRecDepth 50000 in
theorem wsX9_pairs : Cond.selects RX9 yX9_pairs yX9_pairs ∈ gw := (gw_of (List.mem_append_right _ (List.mem_append_right _ (List.mem_append_right _ (List.mem_append_right _ (List.mem_append_left _ (List.mem_of_getElem? (i := 103) rfl)))))) rfl)
def mX9_named : MD := (yX9_named, cX9_named, 2, (some .int), 7, 163)
set_option maxRecDepth 50000 in
theorem mwX9_named : MW mX9_named := ⟨(gw_of (List.mem_append_right _ (List.mem_append_right _ (List.mem_append_right _ (List.mem_append_right _ (List.mem_append_left _ (List.mem_of_getElem? (i := 173) rfl)))))) rfl), (gw_of (List.mem_append_right _ (List.mem_append_left _ (List.mem_of_getElem? (i := 10) rfl))) rfl), by decide +kernel, by decide +kernel, by decide +kernel⟩
set_option maxRecDepth 50000 in
theorem wiX9_named : Cond.instanceMethod yX9_named ∈ gw := (gw_of (List.mem_append_right _ (List.mem_append_right _ (List.mem_append_right _ (List.mem_append_right _ (List.mem_append_left _ (List.mem_of_getElem? (i := 171) rfl)))))) rfl)
set_option maxRecDepth 50000 in
theorem wsX9_named : Cond.selects RX9 yX9_named yX9_named ∈ gw := (gw_of (List.mem_append_right _ (List.mem_append_right _ (List.mem_append_right _ (List.mem_append_right _ (List.mem_append_left _ (List.mem_of_getElem? (i := 172) rfl)))))) rfl)
def mX9_tool : MD := (yX9_tool, cX9_tool, 3, (some .int), 2, 43)
set_option maxRecDepth 50000 in
theorem mwX9_tool : MW mX9_tool := ⟨(gw_of (List.mem_append_right _ (List.mem_append_right _ (List.mem_append_right _ (List.mem_append_right _ (List.mem_append_left _ (List.mem_of_getElem? (i := 177) rfl)))))) rfl), (gw_of (List.mem_append_right _ (List.mem_append_left _ (List.mem_of_getElem? (i := 10) rfl))) rfl), by decide +kernel, by decide +kernel, by decide +kernel⟩
set_option maxRecDepth 50000 in
theorem wiX9_tool : Cond.instanceMethod yX9_tool ∈ gw := (gw_of (List.mem_append_right _ (List.mem_append_right _ (List.mem_append_right _ (List.mem_append_right _ (List.mem_append_left _ (List.mem_of_getElem? (i := 175) rfl)))))) rfl)
set_option maxRecDepth 50000 in
theorem wsX9_tool : Cond.selects RX9 yX9_tool yX9_tool ∈ gw := (gw_of (List.mem_append_right _ (List.mem_append_right _ (List.mem_append_right _ (List.mem_append_right _ (List.mem_append_left _ (List.mem_of_getElem? (i := 176) rfl)))))) rfl)
def mX9_code : MD := (yX9_code, cX9_code, 4, (some .int), 2, 43)
set_option maxRecDepth 50000 in
theorem mwX9_code : MW mX9_code := ⟨(gw_of (List.mem_append_right _ (List.mem_append_right _ (List.mem_append_right _ (List.mem_append_right _ (List.mem_append_left _ (List.mem_of_getElem? (i := 185) rfl)))))) rfl), (gw_of (List.mem_append_right _ (List.mem_append_left _ (List.mem_of_getElem? (i := 10) rfl))) rfl), by decide +kernel, by decide +kernel, by decide +kernel⟩
set_option maxRecDepth 50000 in
theorem wiX9_code : Cond.instanceMethod yX9_code ∈ gw := (gw_of (List.mem_append_right _ (List.mem_append_right _ (List.mem_append_right _ (List.mem_append_right _ (List.mem_append_left _ (List.mem_of_getElem? (i := 183) rfl)))))) rfl)
set_option maxRecDepth 50000 in
theorem wsX9_code : Cond.selects RX9 yX9_code yX9_code ∈ gw := (gw_of (List.mem_append_right _ (List.mem_append_right _ (List.mem_append_right _ (List.mem_append_right _ (List.mem_append_left _ (List.mem_of_getElem? (i := 184) rfl)))))) rfl)
def mX9_step : MD := (yX9_step, cX9_step, 5, (some .int), 2, 42)
set_option maxRecDepth 50000 in
theorem mwX9_step : MW mX9_step := ⟨(gw_of (List.mem_append_right _ (List.mem_append_right _ (List.mem_append_right _ (List.mem_append_right _ (List.mem_append_left _ (List.mem_of_getElem? (i := 197) rfl)))))) rfl), (gw_of (List.mem_append_right _ (List.mem_append_left _ (List.mem_of_getElem? (i := 10) rfl))) rfl), by decide +kernel, by decide +kernel, by decide +kernel⟩
set_option maxRecDepth 50000 in
theorem wiX9_step : Cond.instanceMethod yX9_step ∈ gw := (gw_of (List.mem_append_right _ (List.mem_append_right _ (List.mem_append_right _ (List.mem_append_right _ (List.mem_append_left _ (List.mem_of_getElem? (i := 196) rfl)))))) rfl)
set_option maxRecDepth 50000 in
theorem wsX9_step : Cond.selects RX9 yX9_step yX9_step ∈ gw := (gw_of (List.mem_append_left _ (List.mem_of_getElem? (i := 49) rfl)) rfl)
def mX9_go : MD := (yX9_go, cX9_go, 4, (some .int), 3, 66)
set_option maxRecDepth 50000 in
theorem mwX9_go : MW mX9_go := ⟨(gw_of (List.mem_append_right _ (List.mem_append_right _ (List.mem_append_right _ (List.mem_append_right _ (List.mem_append_left _ (List.mem_of_getElem? (i := 193) rfl)))))) rfl), (gw_of (List.mem_append_right _ (List.mem_append_left _ (List.mem_of_getElem? (i := 10) rfl))) rfl), by decide +kernel, by decide +kernel, by decide +kernel⟩
set_option maxRecDepth 50000 in
theorem wiX9_go : Cond.instanceMethod yX9_go ∈ gw := (gw_of (List.mem_append_right _ (List.mem_append_right _ (List.mem_append_right _ (List.mem_append_right _ (List.mem_append_left _ (List.mem_of_getElem? (i := 192) rfl)))))) rfl)
set_option maxRecDepth 50000 in
theorem wsX9_go : Cond.selects RX9 yX9_go yX9_go ∈ gw := (gw_of (List.mem_append_left _ (List.mem_of_getElem? (i := 48) rfl)) rfl)
def mX9_take : MD := (yX9_take, cX9_take, 3, (none : Option Jvm.ClassFile.FieldType), 0, 0)
set_option maxRecDepth 50000 in
theorem mwX9_take : MW mX9_take := ⟨(gw_of (List.mem_append_right _ (List.mem_append_right _ (List.mem_append_right _ (List.mem_append_right _ (List.mem_append_left _ (List.mem_of_getElem? (i := 217) rfl)))))) rfl), (gw_of (List.mem_append_right _ (List.mem_append_left _ (List.mem_of_getElem? (i := 10) rfl))) rfl), by decide +kernel, by decide +kernel, by decide +kernel⟩
set_option maxRecDepth 50000 in
theorem wiX9_take : Cond.instanceMethod yX9_take ∈ gw := (gw_of (List.mem_append_right _ (List.mem_append_right _ (List.mem_append_right _ (List.mem_append_right _ (List.mem_append_left _ (List.mem_of_getElem? (i := 216) rfl)))))) rfl)
set_option maxRecDepth 50000 in
theorem wsX9_take : Cond.selects RX9 yX9_take yX9_take ∈ gw := (gw_of (List.mem_append_left _ (List.mem_of_getElem? (i := 51) rfl)) rfl)
def mX9_builds : MD := (yX9_builds, cX9_builds, 5, (some .int), 4, 89)
set_option maxRecDepth 50000 in
theorem mwX9_builds : MW mX9_builds := ⟨(gw_of (List.mem_append_right _ (List.mem_append_right _ (List.mem_append_right _ (List.mem_append_right _ (List.mem_append_left _ (List.mem_of_getElem? (i := 213) rfl)))))) rfl), (gw_of (List.mem_append_right _ (List.mem_append_left _ (List.mem_of_getElem? (i := 10) rfl))) rfl), by decide +kernel, by decide +kernel, by decide +kernel⟩
set_option maxRecDepth 50000 in
theorem wiX9_builds : Cond.instanceMethod yX9_builds ∈ gw := (gw_of (List.mem_append_right _ (List.mem_append_right _ (List.mem_append_right _ (List.mem_append_right _ (List.mem_append_left _ (List.mem_of_getElem? (i := 212) rfl)))))) rfl)
set_option maxRecDepth 50000 in
theorem wsX9_builds : Cond.selects RX9 yX9_builds yX9_builds ∈ gw := (gw_of (List.mem_append_left _ (List.mem_of_getElem? (i := 50) rfl)) rfl)
def mX9_run : MD := (yX9_run, cX9_run, 5, (some .int), 4, 89)
set_option maxRecDepth 50000 in
theorem mwX9_run : MW mX9_run := ⟨(gw_of (List.mem_append_right _ (List.mem_append_right _ (List.mem_append_right _ (List.mem_append_right _ (List.mem_append_left _ (List.mem_of_getElem? (i := 189) rfl)))))) rfl), (gw_of (List.mem_append_right _ (List.mem_append_left _ (List.mem_of_getElem? (i := 10) rfl))) rfl), by decide +kernel, by decide +kernel, by decide +kernel⟩
set_option maxRecDepth 50000 in
theorem wiX9_run : Cond.instanceMethod yX9_run ∈ gw := (gw_of (List.mem_append_right _ (List.mem_append_right _ (List.mem_append_right _ (List.mem_append_right _ (List.mem_append_left _ (List.mem_of_getElem? (i := 187) rfl)))))) rfl)
set_option maxRecDepth 50000 in
theorem wsX9_run : Cond.selects RX9 yX9_run yX9_run ∈ gw := (gw_of (List.mem_append_right _ (List.mem_append_right _ (List.mem_append_right _ (List.mem_append_right _ (List.mem_append_left _ (List.mem_of_getElem? (i := 188) rfl)))))) rfl)
def mX9_ran : MD := (yX9_ran, cX9_ran, 2, (some .int), 1, 22)
set_option maxRecDepth 50000 in
theorem mwX9_ran : MW mX9_ran := ⟨(gw_of (List.mem_append_right _ (List.mem_append_right _ (List.mem_append_right _ (List.mem_append_right _ (List.mem_append_left _ (List.mem_of_getElem? (i := 201) rfl)))))) rfl), (gw_of (List.mem_append_right _ (List.mem_append_left _ (List.mem_of_getElem? (i := 10) rfl))) rfl), by decide +kernel, by decide +kernel, by decide +kernel⟩
set_option maxRecDepth 50000 in
theorem wiX9_ran : Cond.instanceMethod yX9_ran ∈ gw := (gw_of (List.mem_append_right _ (List.mem_append_right _ (List.mem_append_right _ (List.mem_append_right _ (List.mem_append_left _ (List.mem_of_getElem? (i := 199) rfl)))))) rfl)
set_option maxRecDepth 50000 in
theorem wsX9_ran : Cond.selects RX9 yX9_ran yX9_ran ∈ gw := (gw_of (List.mem_append_right _ (List.mem_append_right _ (List.mem_append_right _ (List.mem_append_right _ (List.mem_append_left _ (List.mem_of_getElem? (i := 200) rfl)))))) rfl)
def mX9_tape : MD := (yX9_tape, cX9_tape, 3, (some .int), 1, 22)
set_option maxRecDepth 50000 in
theorem mwX9_tape : MW mX9_tape := ⟨(gw_of (List.mem_append_right _ (List.mem_append_right _ (List.mem_append_right _ (List.mem_append_right _ (List.mem_append_left _ (List.mem_of_getElem? (i := 205) rfl)))))) rfl), (gw_of (List.mem_append_right _ (List.mem_append_left _ (List.mem_of_getElem? (i := 10) rfl))) rfl), by decide +kernel, by decide +kernel, by decide +kernel⟩
set_option maxRecDepth 50000 in
theorem wiX9_tape : Cond.instanceMethod yX9_tape ∈ gw := (gw_of (List.mem_append_right _ (List.mem_append_right _ (List.mem_append_right _ (List.mem_append_right _ (List.mem_append_left _ (List.mem_of_getElem? (i := 203) rfl)))))) rfl)
set_option maxRecDepth 50000 in
theorem wsX9_tape : Cond.selects RX9 yX9_tape yX9_tape ∈ gw := (gw_of (List.mem_append_right _ (List.mem_append_right _ (List.mem_append_right _ (List.mem_append_right _ (List.mem_append_left _ (List.mem_of_getElem? (i := 204) rfl)))))) rfl)
def mX9_build : MD := (yX9_build, cX9_build, 3, (some .int), 5, 113)
set_option maxRecDepth 50000 in
theorem mwX9_build : MW mX9_build := ⟨(gw_of (List.mem_append_right _ (List.mem_append_right _ (List.mem_append_right _ (List.mem_append_right _ (List.mem_append_left _ (List.mem_of_getElem? (i := 209) rfl)))))) rfl), (gw_of (List.mem_append_right _ (List.mem_append_left _ (List.mem_of_getElem? (i := 10) rfl))) rfl), by decide +kernel, by decide +kernel, by decide +kernel⟩
set_option maxRecDepth 50000 in
theorem wiX9_build : Cond.instanceMethod yX9_build ∈ gw := (gw_of (List.mem_append_right _ (List.mem_append_right _ (List.mem_append_right _ (List.mem_append_right _ (List.mem_append_left _ (List.mem_of_getElem? (i := 207) rfl)))))) rfl)
set_option maxRecDepth 50000 in
theorem wsX9_build : Cond.selects RX9 yX9_build yX9_build ∈ gw := (gw_of (List.mem_append_right _ (List.mem_append_right _ (List.mem_append_right _ (List.mem_append_right _ (List.mem_append_left _ (List.mem_of_getElem? (i := 208) rfl)))))) rfl)
def mX9_unlike : MD := (yX9_unlike, cX9_unlike, 5, (some .int), 0, 0)
set_option maxRecDepth 50000 in
theorem mwX9_unlike : MW mX9_unlike := ⟨(gw_of (List.mem_append_right _ (List.mem_append_right _ (List.mem_append_right _ (List.mem_append_right _ (List.mem_append_left _ (List.mem_of_getElem? (i := 229) rfl)))))) rfl), (gw_of (List.mem_append_right _ (List.mem_append_left _ (List.mem_of_getElem? (i := 10) rfl))) rfl), by decide +kernel, by decide +kernel, by decide +kernel⟩
set_option maxRecDepth 50000 in
theorem wiX9_unlike : Cond.instanceMethod yX9_unlike ∈ gw := (gw_of (List.mem_append_right _ (List.mem_append_right _ (List.mem_append_right _ (List.mem_append_right _ (List.mem_append_left _ (List.mem_of_getElem? (i := 228) rfl)))))) rfl)
set_option maxRecDepth 50000 in
theorem wsX9_unlike : Cond.selects RX9 yX9_unlike yX9_unlike ∈ gw := (gw_of (List.mem_append_left _ (List.mem_of_getElem? (i := 53) rfl)) rfl)
def mX9_again : MD := (yX9_again, cX9_again, 3, (some .int), 6, 140)
set_option maxRecDepth 50000 in
theorem mwX9_again : MW mX9_again := ⟨(gw_of (List.mem_append_right _ (List.mem_append_right _ (List.mem_append_right _ (List.mem_append_right _ (List.mem_append_left _ (List.mem_of_getElem? (i := 225) rfl)))))) rfl), (gw_of (List.mem_append_right _ (List.mem_append_left _ (List.mem_of_getElem? (i := 10) rfl))) rfl), by decide +kernel, by decide +kernel, by decide +kernel⟩
set_option maxRecDepth 50000 in
theorem wiX9_again : Cond.instanceMethod yX9_again ∈ gw := (gw_of (List.mem_append_right _ (List.mem_append_right _ (List.mem_append_right _ (List.mem_append_right _ (List.mem_append_left _ (List.mem_of_getElem? (i := 224) rfl)))))) rfl)
set_option maxRecDepth 50000 in
theorem wsX9_again : Cond.selects RX9 yX9_again yX9_again ∈ gw := (gw_of (List.mem_append_left _ (List.mem_of_getElem? (i := 52) rfl)) rfl)
def mX9_rebuilt : MD := (yX9_rebuilt, cX9_rebuilt, 2, (some .int), 7, 162)
set_option maxRecDepth 50000 in
theorem mwX9_rebuilt : MW mX9_rebuilt := ⟨(gw_of (List.mem_append_right _ (List.mem_append_right _ (List.mem_append_right _ (List.mem_append_right _ (List.mem_append_left _ (List.mem_of_getElem? (i := 221) rfl)))))) rfl), (gw_of (List.mem_append_right _ (List.mem_append_left _ (List.mem_of_getElem? (i := 10) rfl))) rfl), by decide +kernel, by decide +kernel, by decide +kernel⟩
set_option maxRecDepth 50000 in
theorem wiX9_rebuilt : Cond.instanceMethod yX9_rebuilt ∈ gw := (gw_of (List.mem_append_right _ (List.mem_append_right _ (List.mem_append_right _ (List.mem_append_right _ (List.mem_append_left _ (List.mem_of_getElem? (i := 219) rfl)))))) rfl)
set_option maxRecDepth 50000 in
theorem wsX9_rebuilt : Cond.selects RX9 yX9_rebuilt yX9_rebuilt ∈ gw := (gw_of (List.mem_append_right _ (List.mem_append_right _ (List.mem_append_right _ (List.mem_append_right _ (List.mem_append_left _ (List.mem_of_getElem? (i := 220) rfl)))))) rfl)
def mX9_stale : MD := (yX9_stale, cX9_stale, 4, (some .int), 7, 162)
set_option maxRecDepth 50000 in
theorem mwX9_stale : MW mX9_stale := ⟨(gw_of (List.mem_append_right _ (List.mem_append_right _ (List.mem_append_right _ (List.mem_append_right _ (List.mem_append_left _ (List.mem_of_getElem? (i := 233) rfl)))))) rfl), (gw_of (List.mem_append_right _ (List.mem_append_left _ (List.mem_of_getElem? (i := 10) rfl))) rfl), by decide +kernel, by decide +kernel, by decide +kernel⟩
set_option maxRecDepth 50000 in
theorem wiX9_stale : Cond.instanceMethod yX9_stale ∈ gw := (gw_of (List.mem_append_right _ (List.mem_append_right _ (List.mem_append_right _ (List.mem_append_right _ (List.mem_append_left _ (List.mem_of_getElem? (i := 231) rfl)))))) rfl)
set_option maxRecDepth 50000 in
theorem wsX9_stale : Cond.selects RX9 yX9_stale yX9_stale ∈ gw := (gw_of (List.mem_append_right _ (List.mem_append_right _ (List.mem_append_right _ (List.mem_append_right _ (List.mem_append_left _ (List.mem_of_getElem? (i := 232) rfl)))))) rfl)
def mX9_settles : MD := (yX9_settles, cX9_settles, 4, (some .int), 5, 113)
set_option maxRecDepth 50000 in
theorem mwX9_settles : MW mX9_settles := ⟨(gw_of (List.mem_append_right _ (List.mem_append_right _ (List.mem_append_right _ (List.mem_append_right _ (List.mem_append_left _ (List.mem_of_getElem? (i := 237) rfl)))))) rfl), (gw_of (List.mem_append_right _ (List.mem_append_left _ (List.mem_of_getElem? (i := 10) rfl))) rfl), by decide +kernel, by decide +kernel, by decide +kernel⟩
set_option maxRecDepth 50000 in
theorem wiX9_settles : Cond.instanceMethod yX9_settles ∈ gw := (gw_of (List.mem_append_right _ (List.mem_append_right _ (List.mem_append_right _ (List.mem_append_right _ (List.mem_append_left _ (List.mem_of_getElem? (i := 235) rfl)))))) rfl)
set_option maxRecDepth 50000 in
theorem wsX9_settles : Cond.selects RX9 yX9_settles yX9_settles ∈ gw := (gw_of (List.mem_append_right _ (List.mem_append_right _ (List.mem_append_right _ (List.mem_append_right _ (List.mem_append_left _ (List.mem_of_getElem? (i := 236) rfl)))))) rfl)
def mX9_goRound : MD := (yX9_goRound, cX9_goRound, 5, (some .int), 5, 113)
set_option maxRecDepth 50000 in
theorem mwX9_goRound : MW mX9_goRound := ⟨(gw_of (List.mem_append_right _ (List.mem_append_right _ (List.mem_append_right _ (List.mem_append_right _ (List.mem_append_right _ (List.mem_of_getElem? (i := 5) rfl)))))) rfl), (gw_of (List.mem_append_right _ (List.mem_append_left _ (List.mem_of_getElem? (i := 10) rfl))) rfl), by decide +kernel, by decide +kernel, by decide +kernel⟩
set_option maxRecDepth 50000 in
theorem wiX9_goRound : Cond.instanceMethod yX9_goRound ∈ gw := (gw_of (List.mem_append_right _ (List.mem_append_right _ (List.mem_append_right _ (List.mem_append_right _ (List.mem_append_right _ (List.mem_of_getElem? (i := 4) rfl)))))) rfl)
set_option maxRecDepth 50000 in
theorem wsX9_goRound : Cond.selects RX9 yX9_goRound yX9_goRound ∈ gw := (gw_of (List.mem_append_left _ (List.mem_of_getElem? (i := 54) rfl)) rfl)
def mX9_round : MD := (yX9_round, cX9_round, 4, (some .int), 6, 137)
set_option maxRecDepth 50000 in
theorem mwX9_round : MW mX9_round := ⟨(gw_of (List.mem_append_right _ (List.mem_append_right _ (List.mem_append_right _ (List.mem_append_right _ (List.mem_append_right _ (List.mem_of_getElem? (i := 1) rfl)))))) rfl), (gw_of (List.mem_append_right _ (List.mem_append_left _ (List.mem_of_getElem? (i := 10) rfl))) rfl), by decide +kernel, by decide +kernel, by decide +kernel⟩
set_option maxRecDepth 50000 in
theorem wiX9_round : Cond.instanceMethod yX9_round ∈ gw := (gw_of (List.mem_append_right _ (List.mem_append_right _ (List.mem_append_right _ (List.mem_append_right _ (List.mem_append_left _ (List.mem_of_getElem? (i := 239) rfl)))))) rfl)
set_option maxRecDepth 50000 in
theorem wsX9_round : Cond.selects RX9 yX9_round yX9_round ∈ gw := (gw_of (List.mem_append_right _ (List.mem_append_right _ (List.mem_append_right _ (List.mem_append_right _ (List.mem_append_right _ (List.mem_of_getElem? (i := 0) rfl)))))) rfl)
def mX9_hides : MD := (yX9_hides, cX9_hides, 5, (some .int), 6, 137)
set_option maxRecDepth 50000 in
theorem mwX9_hides : MW mX9_hides := ⟨(gw_of (List.mem_append_right _ (List.mem_append_right _ (List.mem_append_right _ (List.mem_append_right _ (List.mem_append_right _ (List.mem_of_getElem? (i := 9) rfl)))))) rfl), (gw_of (List.mem_append_right _ (List.mem_append_left _ (List.mem_of_getElem? (i := 10) rfl))) rfl), by decide +kernel, by decide +kernel, by decide +kernel⟩
set_option maxRecDepth 50000 in
theorem wiX9_hides : Cond.instanceMethod yX9_hides ∈ gw := (gw_of (List.mem_append_right _ (List.mem_append_right _ (List.mem_append_right _ (List.mem_append_right _ (List.mem_append_right _ (List.mem_of_getElem? (i := 7) rfl)))))) rfl)
set_option maxRecDepth 50000 in
theorem wsX9_hides : Cond.selects RX9 yX9_hides yX9_hides ∈ gw := (gw_of (List.mem_append_right _ (List.mem_append_right _ (List.mem_append_right _ (List.mem_append_right _ (List.mem_append_right _ (List.mem_of_getElem? (i := 8) rfl)))))) rfl)
def mX9_check : MD := (yX9_check, cX9_check, 4, (some .int), 2, 43)
set_option maxRecDepth 50000 in
theorem mwX9_check : MW mX9_check := ⟨(gw_of (List.mem_append_right _ (List.mem_append_right _ (List.mem_append_right _ (List.mem_append_right _ (List.mem_append_right _ (List.mem_of_getElem? (i := 13) rfl)))))) rfl), (gw_of (List.mem_append_right _ (List.mem_append_left _ (List.mem_of_getElem? (i := 10) rfl))) rfl), by decide +kernel, by decide +kernel, by decide +kernel⟩
set_option maxRecDepth 50000 in
theorem wiX9_check : Cond.instanceMethod yX9_check ∈ gw := (gw_of (List.mem_append_right _ (List.mem_append_right _ (List.mem_append_right _ (List.mem_append_right _ (List.mem_append_right _ (List.mem_of_getElem? (i := 11) rfl)))))) rfl)
set_option maxRecDepth 50000 in
theorem wsX9_check : Cond.selects RX9 yX9_check yX9_check ∈ gw := (gw_of (List.mem_append_right _ (List.mem_append_right _ (List.mem_append_right _ (List.mem_append_right _ (List.mem_append_right _ (List.mem_of_getElem? (i := 12) rfl)))))) rfl)
def mX9_lengthOf : MD := (yX9_lengthOf, cX9_lengthOf, 4, (some .int), 0, 0)
set_option maxRecDepth 50000 in
theorem mwX9_lengthOf : MW mX9_lengthOf := ⟨(gw_of (List.mem_append_right _ (List.mem_append_right _ (List.mem_append_right _ (List.mem_append_right _ (List.mem_append_right _ (List.mem_of_getElem? (i := 21) rfl)))))) rfl), (gw_of (List.mem_append_right _ (List.mem_append_left _ (List.mem_of_getElem? (i := 10) rfl))) rfl), by decide +kernel, by decide +kernel, by decide +kernel⟩
set_option maxRecDepth 50000 in
theorem wiX9_lengthOf : Cond.instanceMethod yX9_lengthOf ∈ gw := (gw_of (List.mem_append_right _ (List.mem_append_right _ (List.mem_append_right _ (List.mem_append_right _ (List.mem_append_right _ (List.mem_of_getElem? (i := 20) rfl)))))) rfl)
set_option maxRecDepth 50000 in
theorem wsX9_lengthOf : Cond.selects RX9 yX9_lengthOf yX9_lengthOf ∈ gw := (gw_of (List.mem_append_left _ (List.mem_of_getElem? (i := 55) rfl)) rfl)
def mX9_last : MD := (yX9_last, cX9_last, 3, (some .int), 0, 0)
set_option maxRecDepth 50000 in
theorem mwX9_last : MW mX9_last := ⟨(gw_of (List.mem_append_right _ (List.mem_append_right _ (List.mem_append_right _ (List.mem_append_right _ (List.mem_append_right _ (List.mem_of_getElem? (i := 34) rfl)))))) rfl), (gw_of (List.mem_append_right _ (List.mem_append_left _ (List.mem_of_getElem? (i := 10) rfl))) rfl), by decide +kernel, by decide +kernel, by decide +kernel⟩
set_option maxRecDepth 50000 in
theorem wiX9_last : Cond.instanceMethod yX9_last ∈ gw := (gw_of (List.mem_append_right _ (List.mem_append_right _ (List.mem_append_right _ (List.mem_append_right _ (List.mem_append_right _ (List.mem_of_getElem? (i := 33) rfl)))))) rfl)
set_option maxRecDepth 50000 in
theorem wsX9_last : Cond.selects RX9 yX9_last yX9_last ∈ gw := (gw_of (List.mem_append_left _ (List.mem_of_getElem? (i := 57) rfl)) rfl)
def mX9_chain : MD := (yX9_chain, cX9_chain, 5, (some .int), 2, 43)
set_option maxRecDepth 50000 in
theorem mwX9_chain : MW mX9_chain := ⟨(gw_of (List.mem_append_right _ (List.mem_append_right _ (List.mem_append_right _ (List.mem_append_right _ (List.mem_append_right _ (List.mem_of_getElem? (i := 17) rfl)))))) rfl), (gw_of (List.mem_append_right _ (List.mem_append_left _ (List.mem_of_getElem? (i := 10) rfl))) rfl), by decide +kernel, by decide +kernel, by decide +kernel⟩
set_option maxRecDepth 50000 in
theorem wiX9_chain : Cond.instanceMethod yX9_chain ∈ gw := (gw_of (List.mem_append_right _ (List.mem_append_right _ (List.mem_append_right _ (List.mem_append_right _ (List.mem_append_right _ (List.mem_of_getElem? (i := 15) rfl)))))) rfl)
set_option maxRecDepth 50000 in
theorem wsX9_chain : Cond.selects RX9 yX9_chain yX9_chain ∈ gw := (gw_of (List.mem_append_right _ (List.mem_append_right _ (List.mem_append_right _ (List.mem_append_right _ (List.mem_append_right _ (List.mem_of_getElem? (i := 16) rfl)))))) rfl)
def mX9_sealedOnes : MD := (yX9_sealedOnes, cX9_sealedOnes, 4, (some .int), 8, 185)
set_option maxRecDepth 50000 in
theorem mwX9_sealedOnes : MW mX9_sealedOnes := ⟨(gw_of (List.mem_append_right _ (List.mem_append_right _ (List.mem_append_right _ (List.mem_append_right _ (List.mem_append_right _ (List.mem_of_getElem? (i := 29) rfl)))))) rfl), (gw_of (List.mem_append_right _ (List.mem_append_left _ (List.mem_of_getElem? (i := 10) rfl))) rfl), by decide +kernel, by decide +kernel, by decide +kernel⟩
set_option maxRecDepth 50000 in
theorem wiX9_sealedOnes : Cond.instanceMethod yX9_sealedOnes ∈ gw := (gw_of (List.mem_append_right _ (List.mem_append_right _ (List.mem_append_right _ (List.mem_append_right _ (List.mem_append_right _ (List.mem_of_getElem? (i := 28) rfl)))))) rfl)
set_option maxRecDepth 50000 in
theorem wsX9_sealedOnes : Cond.selects RX9 yX9_sealedOnes yX9_sealedOnes ∈ gw := (gw_of (List.mem_append_left _ (List.mem_of_getElem? (i := 56) rfl)) rfl)
def mX9_sealed : MD := (yX9_sealed, cX9_sealed, 2, (some .int), 9, 208)
set_option maxRecDepth 50000 in
theorem mwX9_sealed : MW mX9_sealed := ⟨(gw_of (List.mem_append_right _ (List.mem_append_right _ (List.mem_append_right _ (List.mem_append_right _ (List.mem_append_right _ (List.mem_of_getElem? (i := 25) rfl)))))) rfl), (gw_of (List.mem_append_right _ (List.mem_append_left _ (List.mem_of_getElem? (i := 10) rfl))) rfl), by decide +kernel, by decide +kernel, by decide +kernel⟩
set_option maxRecDepth 50000 in
theorem wiX9_sealed : Cond.instanceMethod yX9_sealed ∈ gw := (gw_of (List.mem_append_right _ (List.mem_append_right _ (List.mem_append_right _ (List.mem_append_right _ (List.mem_append_right _ (List.mem_of_getElem? (i := 23) rfl)))))) rfl)
set_option maxRecDepth 50000 in
theorem wsX9_sealed : Cond.selects RX9 yX9_sealed yX9_sealed ∈ gw := (gw_of (List.mem_append_right _ (List.mem_append_right _ (List.mem_append_right _ (List.mem_append_right _ (List.mem_append_right _ (List.mem_of_getElem? (i := 24) rfl)))))) rfl)
def mX9_least : MD := (yX9_least, cX9_least, 6, (some .int), 8, 185)
set_option maxRecDepth 50000 in
theorem mwX9_least : MW mX9_least := ⟨(gw_of (List.mem_append_right _ (List.mem_append_right _ (List.mem_append_right _ (List.mem_append_right _ (List.mem_append_right _ (List.mem_of_getElem? (i := 38) rfl)))))) rfl), (gw_of (List.mem_append_right _ (List.mem_append_left _ (List.mem_of_getElem? (i := 10) rfl))) rfl), by decide +kernel, by decide +kernel, by decide +kernel⟩
set_option maxRecDepth 50000 in
theorem wiX9_least : Cond.instanceMethod yX9_least ∈ gw := (gw_of (List.mem_append_right _ (List.mem_append_right _ (List.mem_append_right _ (List.mem_append_right _ (List.mem_append_right _ (List.mem_of_getElem? (i := 36) rfl)))))) rfl)
set_option maxRecDepth 50000 in
theorem wsX9_least : Cond.selects RX9 yX9_least yX9_least ∈ gw := (gw_of (List.mem_append_right _ (List.mem_append_right _ (List.mem_append_right _ (List.mem_append_right _ (List.mem_append_right _ (List.mem_of_getElem? (i := 37) rfl)))))) rfl)
def mX9_same : MD := (yX9_same, cX9_same, 3, (some .int), 2, 43)
set_option maxRecDepth 50000 in
theorem mwX9_same : MW mX9_same := ⟨(gw_of (List.mem_append_right _ (List.mem_append_right _ (List.mem_append_right _ (List.mem_append_right _ (List.mem_append_right _ (List.mem_of_getElem? (i := 42) rfl)))))) rfl), (gw_of (List.mem_append_right _ (List.mem_append_left _ (List.mem_of_getElem? (i := 10) rfl))) rfl), by decide +kernel, by decide +kernel, by decide +kernel⟩
set_option maxRecDepth 50000 in
theorem wiX9_same : Cond.instanceMethod yX9_same ∈ gw := (gw_of (List.mem_append_right _ (List.mem_append_right _ (List.mem_append_right _ (List.mem_append_right _ (List.mem_append_right _ (List.mem_of_getElem? (i := 40) rfl)))))) rfl)
set_option maxRecDepth 50000 in
theorem wsX9_same : Cond.selects RX9 yX9_same yX9_same ∈ gw := (gw_of (List.mem_append_right _ (List.mem_append_right _ (List.mem_append_right _ (List.mem_append_right _ (List.mem_append_right _ (List.mem_of_getElem? (i := 41) rfl)))))) rfl)
def mX9_edition : MD := (yX9_edition, cX9_edition, 3, (some .int), 1, 22)
set_option maxRecDepth 50000 in
theorem mwX9_edition : MW mX9_edition := ⟨(gw_of (List.mem_append_right _ (List.mem_append_right _ (List.mem_append_right _ (List.mem_append_right _ (List.mem_append_right _ (List.mem_of_getElem? (i := 46) rfl)))))) rfl), (gw_of (List.mem_append_right _ (List.mem_append_left _ (List.mem_of_getElem? (i := 10) rfl))) rfl), by decide +kernel, by decide +kernel, by decide +kernel⟩
set_option maxRecDepth 50000 in
theorem wiX9_edition : Cond.instanceMethod yX9_edition ∈ gw := (gw_of (List.mem_append_right _ (List.mem_append_right _ (List.mem_append_right _ (List.mem_append_right _ (List.mem_append_right _ (List.mem_of_getElem? (i := 44) rfl)))))) rfl)
set_option maxRecDepth 50000 in
theorem wsX9_edition : Cond.selects RX9 yX9_edition yX9_edition ∈ gw := (gw_of (List.mem_append_right _ (List.mem_append_right _ (List.mem_append_right _ (List.mem_append_right _ (List.mem_append_right _ (List.mem_of_getElem? (i := 45) rfl)))))) rfl)
def mX9_isEdition : MD := (yX9_isEdition, cX9_isEdition, 2, (some .boolean), 1, 22)
set_option maxRecDepth 50000 in
theorem mwX9_isEdition : MW mX9_isEdition := ⟨(gw_of (List.mem_append_right _ (List.mem_append_right _ (List.mem_append_right _ (List.mem_append_right _ (List.mem_append_right _ (List.mem_of_getElem? (i := 55) rfl)))))) rfl), (gw_of (List.mem_append_right _ (List.mem_append_left _ (List.mem_of_getElem? (i := 10) rfl))) rfl), by decide +kernel, by decide +kernel, by decide +kernel⟩
set_option maxRecDepth 50000 in
theorem wiX9_isEdition : Cond.instanceMethod yX9_isEdition ∈ gw := (gw_of (List.mem_append_right _ (List.mem_append_right _ (List.mem_append_right _ (List.mem_append_right _ (List.mem_append_right _ (List.mem_of_getElem? (i := 54) rfl)))))) rfl)
set_option maxRecDepth 50000 in
theorem wsX9_isEdition : Cond.selects RX9 yX9_isEdition yX9_isEdition ∈ gw := (gw_of (List.mem_append_left _ (List.mem_of_getElem? (i := 58) rfl)) rfl)
def mX9_climb : MD := (yX9_climb, cX9_climb, 9, (some .int), 0, 0)
set_option maxRecDepth 50000 in
theorem mwX9_climb : MW mX9_climb := ⟨(gw_of (List.mem_append_right _ (List.mem_append_right _ (List.mem_append_right _ (List.mem_append_right _ (List.mem_append_right _ (List.mem_of_getElem? (i := 59) rfl)))))) rfl), (gw_of (List.mem_append_right _ (List.mem_append_left _ (List.mem_of_getElem? (i := 10) rfl))) rfl), by decide +kernel, by decide +kernel, by decide +kernel⟩
set_option maxRecDepth 50000 in
theorem wiX9_climb : Cond.instanceMethod yX9_climb ∈ gw := (gw_of (List.mem_append_right _ (List.mem_append_right _ (List.mem_append_right _ (List.mem_append_right _ (List.mem_append_right _ (List.mem_of_getElem? (i := 58) rfl)))))) rfl)
set_option maxRecDepth 50000 in
theorem wsX9_climb : Cond.selects RX9 yX9_climb yX9_climb ∈ gw := (gw_of (List.mem_append_left _ (List.mem_of_getElem? (i := 59) rfl)) rfl)
def mX9_ladder : MD := (yX9_ladder, cX9_ladder, 9, (some .int), 2, 43)
set_option maxRecDepth 50000 in
theorem mwX9_ladder : MW mX9_ladder := ⟨(gw_of (List.mem_append_right _ (List.mem_append_right _ (List.mem_append_right _ (List.mem_append_right _ (List.mem_append_right _ (List.mem_of_getElem? (i := 51) rfl)))))) rfl), (gw_of (List.mem_append_right _ (List.mem_append_left _ (List.mem_of_getElem? (i := 10) rfl))) rfl), by decide +kernel, by decide +kernel, by decide +kernel⟩
set_option maxRecDepth 50000 in
theorem wiX9_ladder : Cond.instanceMethod yX9_ladder ∈ gw := (gw_of (List.mem_append_right _ (List.mem_append_right _ (List.mem_append_right _ (List.mem_append_right _ (List.mem_append_right _ (List.mem_of_getElem? (i := 49) rfl)))))) rfl)
set_option maxRecDepth 50000 in
theorem wsX9_ladder : Cond.selects RX9 yX9_ladder yX9_ladder ∈ gw := (gw_of (List.mem_append_right _ (List.mem_append_right _ (List.mem_append_right _ (List.mem_append_right _ (List.mem_append_right _ (List.mem_of_getElem? (i := 50) rfl)))))) rfl)
def mX9_needed : MD := (yX9_needed, cX9_needed, 9, (some .int), 2, 43)
set_option maxRecDepth 50000 in
theorem mwX9_needed : MW mX9_needed := ⟨(gw_of (List.mem_append_right _ (List.mem_append_right _ (List.mem_append_right _ (List.mem_append_right _ (List.mem_append_right _ (List.mem_of_getElem? (i := 63) rfl)))))) rfl), (gw_of (List.mem_append_right _ (List.mem_append_left _ (List.mem_of_getElem? (i := 10) rfl))) rfl), by decide +kernel, by decide +kernel, by decide +kernel⟩
set_option maxRecDepth 50000 in
theorem wiX9_needed : Cond.instanceMethod yX9_needed ∈ gw := (gw_of (List.mem_append_right _ (List.mem_append_right _ (List.mem_append_right _ (List.mem_append_right _ (List.mem_append_right _ (List.mem_of_getElem? (i := 61) rfl)))))) rfl)
set_option maxRecDepth 50000 in
theorem wsX9_needed : Cond.selects RX9 yX9_needed yX9_needed ∈ gw := (gw_of (List.mem_append_right _ (List.mem_append_right _ (List.mem_append_right _ (List.mem_append_right _ (List.mem_append_right _ (List.mem_of_getElem? (i := 62) rfl)))))) rfl)
def mX9_weight : MD := (yX9_weight, cX9_weight, 6, (some .int), 2, 43)
set_option maxRecDepth 50000 in
theorem mwX9_weight : MW mX9_weight := ⟨(gw_of (List.mem_append_right _ (List.mem_append_right _ (List.mem_append_right _ (List.mem_append_right _ (List.mem_append_right _ (List.mem_of_getElem? (i := 67) rfl)))))) rfl), (gw_of (List.mem_append_right _ (List.mem_append_left _ (List.mem_of_getElem? (i := 10) rfl))) rfl), by decide +kernel, by decide +kernel, by decide +kernel⟩
set_option maxRecDepth 50000 in
theorem wiX9_weight : Cond.instanceMethod yX9_weight ∈ gw := (gw_of (List.mem_append_right _ (List.mem_append_right _ (List.mem_append_right _ (List.mem_append_right _ (List.mem_append_right _ (List.mem_of_getElem? (i := 65) rfl)))))) rfl)
set_option maxRecDepth 50000 in
theorem wsX9_weight : Cond.selects RX9 yX9_weight yX9_weight ∈ gw := (gw_of (List.mem_append_right _ (List.mem_append_right _ (List.mem_append_right _ (List.mem_append_right _ (List.mem_append_right _ (List.mem_of_getElem? (i := 66) rfl)))))) rfl)
def mX9_count : MD := (yX9_count, cX9_count, 5, (some .int), 9, 208)
set_option maxRecDepth 50000 in
theorem mwX9_count : MW mX9_count := ⟨(gw_of (List.mem_append_right _ (List.mem_append_right _ (List.mem_append_right _ (List.mem_append_right _ (List.mem_append_right _ (List.mem_of_getElem? (i := 76) rfl)))))) rfl), (gw_of (List.mem_append_right _ (List.mem_append_left _ (List.mem_of_getElem? (i := 10) rfl))) rfl), by decide +kernel, by decide +kernel, by decide +kernel⟩
set_option maxRecDepth 50000 in
theorem wiX9_count : Cond.instanceMethod yX9_count ∈ gw := (gw_of (List.mem_append_right _ (List.mem_append_right _ (List.mem_append_right _ (List.mem_append_right _ (List.mem_append_right _ (List.mem_of_getElem? (i := 74) rfl)))))) rfl)
set_option maxRecDepth 50000 in
theorem wsX9_count : Cond.selects RX9 yX9_count yX9_count ∈ gw := (gw_of (List.mem_append_right _ (List.mem_append_right _ (List.mem_append_right _ (List.mem_append_right _ (List.mem_append_right _ (List.mem_of_getElem? (i := 75) rfl)))))) rfl)
def mX9_trace : MD := (yX9_trace, cX9_trace, 1, (some .long), 0, 0)
set_option maxRecDepth 50000 in
theorem mwX9_trace : MW mX9_trace := ⟨(gw_of (List.mem_append_right _ (List.mem_append_right _ (List.mem_append_right _ (List.mem_append_right _ (List.mem_append_right _ (List.mem_of_getElem? (i := 80) rfl)))))) rfl), (gw_of (List.mem_append_right _ (List.mem_append_left _ (List.mem_of_getElem? (i := 10) rfl))) rfl), by decide +kernel, by decide +kernel, by decide +kernel⟩
set_option maxRecDepth 50000 in
theorem wiX9_trace : Cond.instanceMethod yX9_trace ∈ gw := (gw_of (List.mem_append_right _ (List.mem_append_right _ (List.mem_append_right _ (List.mem_append_right _ (List.mem_append_right _ (List.mem_of_getElem? (i := 78) rfl)))))) rfl)
set_option maxRecDepth 50000 in
theorem wsX9_trace : Cond.selects RX9 yX9_trace yX9_trace ∈ gw := (gw_of (List.mem_append_right _ (List.mem_append_right _ (List.mem_append_right _ (List.mem_append_right _ (List.mem_append_right _ (List.mem_of_getElem? (i := 79) rfl)))))) rfl)
set_option maxRecDepth 50000 in
theorem wlX0_3 : Cond.methodLink RX0 3 objectInit ∈ gw := (gw_of (List.mem_append_right _ (List.mem_append_left _ (List.mem_of_getElem? (i := 58) rfl))) rfl)
set_option maxRecDepth 50000 in
theorem fpX0_9_X0 : FP RX0 9 0 3 .int := ⟨RX0, "LadderForge$Code", TX0, 4, tyX0, rfl, by decide, inwX0, Or.inl (gw_of (List.mem_append_right _ (List.mem_append_left _ (List.mem_of_getElem? (i := 65) rfl))) rfl), Or.inl rfl, tyX0_ok, nmX0, rfl, by decide +kernel⟩
set_option maxRecDepth 50000 in
theorem wlX0_15 : Cond.methodLink RX0 15 Lib.Math.min.name ∈ gw := (gw_of (List.mem_append_right _ (List.mem_append_left _ (List.mem_of_getElem? (i := 59) rfl))) rfl)
set_option maxRecDepth 50000 in
theorem ffX0_21_X0 : FPF RX0 21 0 0 .int := ⟨RX0, "LadderForge$Code", TX0, 4, tyX0, rfl, by decide, inwX0, (gw_of (List.mem_append_right _ (List.mem_append_left _ (List.mem_of_getElem? (i := 62) rfl))) rfl), Or.inl rfl, tyX0_ok, nmX0, rfl, rfl, by decide +kernel⟩
set_option maxRecDepth 50000 in
theorem faX0_21_X0 : FA RX0 21 0 0 := ⟨RX0, "LadderForge$Code", TX0, 4, rfl, by decide, inwX0, Or.inl (gw_of (List.mem_append_right _ (List.mem_append_left _ (List.mem_of_getElem? (i := 62) rfl))) rfl), Or.inl rfl⟩
set_option maxRecDepth 50000 in
theorem ffX0_24_X0 : FPF RX0 24 0 1 (.array .int) := ⟨RX0, "LadderForge$Code", TX0, 4, tyX0, rfl, by decide, inwX0, (gw_of (List.mem_append_right _ (List.mem_append_left _ (List.mem_of_getElem? (i := 63) rfl))) rfl), Or.inl rfl, tyX0_ok, nmX0, rfl, rfl, by decide +kernel⟩
set_option maxRecDepth 50000 in
theorem ffX0_28_X0 : FPF RX0 28 0 2 (.array .int) := ⟨RX0, "LadderForge$Code", TX0, 4, tyX0, rfl, by decide, inwX0, (gw_of (List.mem_append_right _ (List.mem_append_left _ (List.mem_of_getElem? (i := 64) rfl))) rfl), Or.inl rfl, tyX0_ok, nmX0, rfl, rfl, by decide +kernel⟩
set_option maxRecDepth 50000 in
theorem faX0_9_X0 : FA RX0 9 0 3 := ⟨RX0, "LadderForge$Code", TX0, 4, rfl, by decide, inwX0, Or.inl (gw_of (List.mem_append_right _ (List.mem_append_left _ (List.mem_of_getElem? (i := 65) rfl))) rfl), Or.inl rfl⟩
set_option maxRecDepth 50000 in
theorem faX0_24_X0 : FA RX0 24 0 1 := ⟨RX0, "LadderForge$Code", TX0, 4, rfl, by decide, inwX0, Or.inl (gw_of (List.mem_append_right _ (List.mem_append_left _ (List.mem_of_getElem? (i := 63) rfl))) rfl), Or.inl rfl⟩
set_option maxRecDepth 50000 in
theorem faX0_28_X0 : FA RX0 28 0 2 := ⟨RX0, "LadderForge$Code", TX0, 4, rfl, by decide, inwX0, Or.inl (gw_of (List.mem_append_right _ (List.mem_append_left _ (List.mem_of_getElem? (i := 64) rfl))) rfl), Or.inl rfl⟩
set_option maxRecDepth 50000 in
theorem wlX0_31 : Cond.methodLink RX0 31 yX0_at ∈ gw := (gw_of (List.mem_append_right _ (List.mem_append_right _ (List.mem_append_left _ (List.mem_of_getElem? (i := 159) rfl)))) rfl)
set_option maxRecDepth 50000 in
theorem fnX0_10 : FN RX0 10 0 [.int 0, .null, .null, .int 0] := ⟨RX0, TX0, 4, tyX0, rfl, inwX0, tyX0_ok, (gw_of (List.mem_append_right _ (List.mem_append_right _ (List.mem_append_left _ (List.mem_of_getElem? (i := 157) rfl)))) rfl), (gw_of (List.mem_append_right _ (List.mem_append_left _ (List.mem_of_getElem? (i := 54) rfl))) rfl), (gw_of (List.mem_append_right _ (List.mem_append_left _ (List.mem_of_getElem? (i := 5) rfl))) rfl), by decide +kernel, rfl, fun _ => rfl⟩
set_option maxRecDepth 50000 in
theorem wlX0_37 : Cond.methodLink RX0 37 yX0_init ∈ gw := (gw_of (List.mem_append_right _ (List.mem_append_right _ (List.mem_append_left _ (List.mem_of_getElem? (i := 158) rfl)))) rfl)
set_option maxRecDepth 50000 in
theorem wlX0_40 : Cond.methodLink RX0 40 yX0_ledAt ∈ gw := (gw_of (List.mem_append_right _ (List.mem_append_right _ (List.mem_append_left _ (List.mem_of_getElem? (i := 163) rfl)))) rfl)
set_option maxRecDepth 50000 in
theorem wlX0_43 : Cond.methodLink RX0 43 yX0_add ∈ gw := (gw_of (List.mem_append_right _ (List.mem_append_right _ (List.mem_append_left _ (List.mem_of_getElem? (i := 164) rfl)))) rfl)
set_option maxRecDepth 50000 in
theorem wlX1_3 : Cond.methodLink RX1 3 objectInit ∈ gw := (gw_of (List.mem_append_right _ (List.mem_append_left _ (List.mem_of_getElem? (i := 156) rfl))) rfl)
set_option maxRecDepth 50000 in
theorem ffX1_9_X1 : FPF RX1 9 1 0 (.array .int) := ⟨RX1, "LadderForge$Editions", TX1, 4, tyX1, rfl, by decide, inwX1, (gw_of (List.mem_append_right _ (List.mem_append_left _ (List.mem_of_getElem? (i := 157) rfl))) rfl), Or.inl rfl, tyX1_ok, nmX1, rfl, rfl, by decide +kernel⟩
set_option maxRecDepth 50000 in
theorem ffX1_15_X1 : FPF RX1 15 1 1 (.array .int) := ⟨RX1, "LadderForge$Editions", TX1, 4, tyX1, rfl, by decide, inwX1, (gw_of (List.mem_append_right _ (List.mem_append_left _ (List.mem_of_getElem? (i := 158) rfl))) rfl), Or.inl rfl, tyX1_ok, nmX1, rfl, rfl, by decide +kernel⟩
set_option maxRecDepth 50000 in
theorem ffX1_18_X1 : FPF RX1 18 1 2 (.array .int) := ⟨RX1, "LadderForge$Editions", TX1, 4, tyX1, rfl, by decide, inwX1, (gw_of (List.mem_append_right _ (List.mem_append_left _ (List.mem_of_getElem? (i := 159) rfl))) rfl), Or.inl rfl, tyX1_ok, nmX1, rfl, rfl, by decide +kernel⟩
set_option maxRecDepth 50000 in
theorem fpX1_21_X1 : FP RX1 21 1 3 .int := ⟨RX1, "LadderForge$Editions", TX1, 4, tyX1, rfl, by decide, inwX1, Or.inl (gw_of (List.mem_append_right _ (List.mem_append_left _ (List.mem_of_getElem? (i := 160) rfl))) rfl), Or.inl rfl, tyX1_ok, nmX1, rfl, by decide +kernel⟩
set_option maxRecDepth 50000 in
theorem faX1_21_X1 : FA RX1 21 1 3 := ⟨RX1, "LadderForge$Editions", TX1, 4, rfl, by decide, inwX1, Or.inl (gw_of (List.mem_append_right _ (List.mem_append_left _ (List.mem_of_getElem? (i := 160) rfl))) rfl), Or.inl rfl⟩
set_option maxRecDepth 50000 in
theorem faX1_9_X1 : FA RX1 9 1 0 := ⟨RX1, "LadderForge$Editions", TX1, 4, rfl, by decide, inwX1, Or.inl (gw_of (List.mem_append_right _ (List.mem_append_left _ (List.mem_of_getElem? (i := 157) rfl))) rfl), Or.inl rfl⟩
set_option maxRecDepth 50000 in
theorem faX1_15_X1 : FA RX1 15 1 1 := ⟨RX1, "LadderForge$Editions", TX1, 4, rfl, by decide, inwX1, Or.inl (gw_of (List.mem_append_right _ (List.mem_append_left _ (List.mem_of_getElem? (i := 158) rfl))) rfl), Or.inl rfl⟩
set_option maxRecDepth 50000 in
theorem faX1_18_X1 : FA RX1 18 1 2 := ⟨RX1, "LadderForge$Editions", TX1, 4, rfl, by decide, inwX1, Or.inl (gw_of (List.mem_append_right _ (List.mem_append_left _ (List.mem_of_getElem? (i := 159) rfl))) rfl), Or.inl rfl⟩
set_option maxRecDepth 50000 in
theorem wlX1_25 : Cond.methodLink RX1 25 yX1_has ∈ gw := (gw_of (List.mem_append_right _ (List.mem_append_right _ (List.mem_append_right _ (List.mem_append_left _ (List.mem_of_getElem? (i := 124) rfl))))) rfl)
set_option maxRecDepth 50000 in
theorem wlX1_33 : Cond.methodLink RX1 33 yX1_firstBuilt ∈ gw := (gw_of (List.mem_append_right _ (List.mem_append_right _ (List.mem_append_right _ (List.mem_append_left _ (List.mem_of_getElem? (i := 129) rfl))))) rfl)
set_option maxRecDepth 50000 in
theorem wlX1_29 : Cond.methodLink RX1 29 yX1_reachBack ∈ gw := (gw_of (List.mem_append_right _ (List.mem_append_right _ (List.mem_append_right _ (List.mem_append_left _ (List.mem_of_getElem? (i := 125) rfl))))) rfl)
set_option maxRecDepth 50000 in
theorem wlX2_3 : Cond.methodLink RX2 3 objectInit ∈ gw := (gw_of (List.mem_append_right _ (List.mem_append_left _ (List.mem_of_getElem? (i := 113) rfl))) rfl)
set_option maxRecDepth 50000 in
theorem ffX2_9_X2 : FPF RX2 9 2 0 (.array .int) := ⟨RX2, "LadderForge$Machine", TX2, 9, tyX2, rfl, by decide, inwX2, (gw_of (List.mem_append_right _ (List.mem_append_left _ (List.mem_of_getElem? (i := 116) rfl))) rfl), Or.inl rfl, tyX2_ok, nmX2, rfl, rfl, by decide +kernel⟩
set_option maxRecDepth 50000 in
theorem fnX2_15 : FN RX2 15 0 [.int 0, .null, .null, .int 0] := ⟨RX0, TX0, 4, tyX0, rfl, inwX0, tyX0_ok, (gw_of (List.mem_append_right _ (List.mem_append_left _ (List.mem_of_getElem? (i := 114) rfl))) rfl), (gw_of (List.mem_append_right _ (List.mem_append_left _ (List.mem_of_getElem? (i := 54) rfl))) rfl), (gw_of (List.mem_append_right _ (List.mem_append_left _ (List.mem_of_getElem? (i := 5) rfl))) rfl), by decide +kernel, rfl, fun _ => rfl⟩
set_option maxRecDepth 50000 in
theorem wlX2_17 : Cond.methodLink RX2 17 yX0_init ∈ gw := (gw_of (List.mem_append_right _ (List.mem_append_left _ (List.mem_of_getElem? (i := 115) rfl))) rfl)
set_option maxRecDepth 50000 in
theorem ffX2_20_X2 : FPF RX2 20 2 1 (.object "LadderForge$Code") := ⟨RX2, "LadderForge$Machine", TX2, 9, tyX2, rfl, by decide, inwX2, (gw_of (List.mem_append_right _ (List.mem_append_left _ (List.mem_of_getElem? (i := 117) rfl))) rfl), Or.inl rfl, tyX2_ok, nmX2, rfl, rfl, by decide +kernel⟩
set_option maxRecDepth 50000 in
theorem fpX2_24_X2 : FP RX2 24 2 2 .int := ⟨RX2, "LadderForge$Machine", TX2, 9, tyX2, rfl, by decide, inwX2, Or.inl (gw_of (List.mem_append_right _ (List.mem_append_left _ (List.mem_of_getElem? (i := 119) rfl))) rfl), Or.inl rfl, tyX2_ok, nmX2, rfl, by decide +kernel⟩
set_option maxRecDepth 50000 in
theorem fpX2_28_X2 : FP RX2 28 2 3 .int := ⟨RX2, "LadderForge$Machine", TX2, 9, tyX2, rfl, by decide, inwX2, Or.inl (gw_of (List.mem_append_right _ (List.mem_append_left _ (List.mem_of_getElem? (i := 121) rfl))) rfl), Or.inl rfl, tyX2_ok, nmX2, rfl, by decide +kernel⟩
set_option maxRecDepth 50000 in
theorem fpX2_31_X2 : FP RX2 31 2 4 .int := ⟨RX2, "LadderForge$Machine", TX2, 9, tyX2, rfl, by decide, inwX2, Or.inl (gw_of (List.mem_append_right _ (List.mem_append_left _ (List.mem_of_getElem? (i := 123) rfl))) rfl), Or.inl rfl, tyX2_ok, nmX2, rfl, by decide +kernel⟩
set_option maxRecDepth 50000 in
theorem fpX2_34_X2 : FP RX2 34 2 5 .boolean := ⟨RX2, "LadderForge$Machine", TX2, 9, tyX2, rfl, by decide, inwX2, Or.inl (gw_of (List.mem_append_right _ (List.mem_append_left _ (List.mem_of_getElem? (i := 125) rfl))) rfl), Or.inl rfl, tyX2_ok, nmX2, rfl, by decide +kernel⟩
set_option maxRecDepth 50000 in
theorem fpX2_38_X2 : FP RX2 38 2 6 .int := ⟨RX2, "LadderForge$Machine", TX2, 9, tyX2, rfl, by decide, inwX2, Or.inl (gw_of (List.mem_append_right _ (List.mem_append_left _ (List.mem_of_getElem? (i := 126) rfl))) rfl), Or.inl rfl, tyX2_ok, nmX2, rfl, by decide +kernel⟩
set_option maxRecDepth 50000 in
theorem fpX2_41_X2 : FP RX2 41 2 7 .int := ⟨RX2, "LadderForge$Machine", TX2, 9, tyX2, rfl, by decide, inwX2, Or.inl (gw_of (List.mem_append_right _ (List.mem_append_left _ (List.mem_of_getElem? (i := 128) rfl))) rfl), Or.inl rfl, tyX2_ok, nmX2, rfl, by decide +kernel⟩
set_option maxRecDepth 50000 in
theorem fpX2_44_X2 : FP RX2 44 2 8 .int := ⟨RX2, "LadderForge$Machine", TX2, 9, tyX2, rfl, by decide, inwX2, Or.inl (gw_of (List.mem_append_right _ (List.mem_append_left _ (List.mem_of_getElem? (i := 130) rfl))) rfl), Or.inl rfl, tyX2_ok, nmX2, rfl, by decide +kernel⟩
set_option maxRecDepth 50000 in
theorem faX2_9_X2 : FA RX2 9 2 0 := ⟨RX2, "LadderForge$Machine", TX2, 9, rfl, by decide, inwX2, Or.inl (gw_of (List.mem_append_right _ (List.mem_append_left _ (List.mem_of_getElem? (i := 116) rfl))) rfl), Or.inl rfl⟩
set_option maxRecDepth 50000 in
theorem faX2_51_X0 : FA RX2 51 0 3 := ⟨RX0, "LadderForge$Code", TX0, 4, rfl, by decide, inwX0, Or.inr ⟨"LadderForge", (List.mem_of_getElem? (i := 8) rfl)⟩, Or.inl rfl⟩
set_option maxRecDepth 50000 in
theorem wlX2_66 : Cond.methodLink RX2 66 yX0_at ∈ gw := (gw_of (List.mem_append_right _ (List.mem_append_right _ (List.mem_append_left _ (List.mem_of_getElem? (i := 215) rfl)))) rfl)
set_option maxRecDepth 50000 in
theorem faX2_20_X2 : FA RX2 20 2 1 := ⟨RX2, "LadderForge$Machine", TX2, 9, rfl, by decide, inwX2, Or.inl (gw_of (List.mem_append_right _ (List.mem_append_left _ (List.mem_of_getElem? (i := 117) rfl))) rfl), Or.inl rfl⟩
set_option maxRecDepth 50000 in
theorem fpX2_51_X0 : FP RX2 51 0 3 .int := ⟨RX0, "LadderForge$Code", TX0, 4, tyX0, rfl, by decide, inwX0, Or.inr ⟨"LadderForge", (List.mem_of_getElem? (i := 8) rfl)⟩, Or.inl rfl, tyX0_ok, nmX0, rfl, by decide +kernel⟩
set_option maxRecDepth 50000 in
theorem faX2_38_X2 : FA RX2 38 2 6 := ⟨RX2, "LadderForge$Machine", TX2, 9, rfl, by decide, inwX2, Or.inl (gw_of (List.mem_append_right _ (List.mem_append_left _ (List.mem_of_getElem? (i := 126) rfl))) rfl), Or.inl rfl⟩
set_option maxRecDepth 50000 in
theorem faX6_15_X6 : FA RX6 15 5 1 := ⟨RX6, "LadderForge$Text", TX6, 2, rfl, by decide, inwX6, Or.inl (gw_of (List.mem_append_right _ (List.mem_append_left _ (List.mem_of_getElem? (i := 31) rfl))) rfl), Or.inl rfl⟩
set_option maxRecDepth 50000 in
theorem faX6_9_X6 : FA RX6 9 5 0 := ⟨RX6, "LadderForge$Text", TX6, 2, rfl, by decide, inwX6, Or.inl (gw_of (List.mem_append_right _ (List.mem_append_left _ (List.mem_of_getElem? (i := 30) rfl))) rfl), Or.inl rfl⟩
set_option maxRecDepth 50000 in
theorem faX2_41_X2 : FA RX2 41 2 7 := ⟨RX2, "LadderForge$Machine", TX2, 9, rfl, by decide, inwX2, Or.inl (gw_of (List.mem_append_right _ (List.mem_append_left _ (List.mem_of_getElem? (i := 128) rfl))) rfl), Or.inl rfl⟩
set_option maxRecDepth 50000 in
theorem faX2_31_X2 : FA RX2 31 2 4 := ⟨RX2, "LadderForge$Machine", TX2, 9, rfl, by decide, inwX2, Or.inl (gw_of (List.mem_append_right _ (List.mem_append_left _ (List.mem_of_getElem? (i := 123) rfl))) rfl), Or.inl rfl⟩
set_option maxRecDepth 50000 in
theorem wlX2_69 : Cond.methodLink RX2 69 yX2_hasNumber ∈ gw := (gw_of (List.mem_append_right _ (List.mem_append_right _ (List.mem_append_left _ (List.mem_of_getElem? (i := 224) rfl)))) rfl)
set_option maxRecDepth 50000 in
theorem wlX2_73 : Cond.methodLink RX2 73 yX6_at ∈ gw := (gw_of (List.mem_append_right _ (List.mem_append_right _ (List.mem_append_left _ (List.mem_of_getElem? (i := 225) rfl)))) rfl)
set_option maxRecDepth 50000 in
theorem wlX2_76 : Cond.methodLink RX2 76 yX2_take ∈ gw := (gw_of (List.mem_append_right _ (List.mem_append_right _ (List.mem_append_left _ (List.mem_of_getElem? (i := 226) rfl)))) rfl)
set_option maxRecDepth 50000 in
theorem faX2_24_X2 : FA RX2 24 2 2 := ⟨RX2, "LadderForge$Machine", TX2, 9, rfl, by decide, inwX2, Or.inl (gw_of (List.mem_append_right _ (List.mem_append_left _ (List.mem_of_getElem? (i := 119) rfl))) rfl), Or.inl rfl⟩
set_option maxRecDepth 50000 in
theorem wlX2_79 : Cond.methodLink RX2 79 Lib.Math.max.name ∈ gw := (gw_of (List.mem_append_right _ (List.mem_append_right _ (List.mem_append_left _ (List.mem_of_getElem? (i := 230) rfl)))) rfl)
set_option maxRecDepth 50000 in
theorem wlX2_85 : Cond.methodLink RX2 85 yX0_add ∈ gw := (gw_of (List.mem_append_right _ (List.mem_append_right _ (List.mem_append_left _ (List.mem_of_getElem? (i := 233) rfl)))) rfl)
set_option maxRecDepth 50000 in
theorem faX2_28_X2 : FA RX2 28 2 3 := ⟨RX2, "LadderForge$Machine", TX2, 9, rfl, by decide, inwX2, Or.inl (gw_of (List.mem_append_right _ (List.mem_append_left _ (List.mem_of_getElem? (i := 121) rfl))) rfl), Or.inl rfl⟩
set_option maxRecDepth 50000 in
theorem faX2_34_X2 : FA RX2 34 2 5 := ⟨RX2, "LadderForge$Machine", TX2, 9, rfl, by decide, inwX2, Or.inl (gw_of (List.mem_append_right _ (List.mem_append_left _ (List.mem_of_getElem? (i := 125) rfl))) rfl), Or.inl rfl⟩
set_option maxRecDepth 50000 in
theorem wlX2_54 : Cond.methodLink RX2 54 yX2_load ∈ gw := (gw_of (List.mem_append_right _ (List.mem_append_right _ (List.mem_append_left _ (List.mem_of_getElem? (i := 211) rfl)))) rfl)
set_option maxRecDepth 50000 in
theorem wlX2_58 : Cond.methodLink RX2 58 yX2_harmOf ∈ gw := (gw_of (List.mem_append_right _ (List.mem_append_right _ (List.mem_append_left _ (List.mem_of_getElem? (i := 216) rfl)))) rfl)
set_option maxRecDepth 50000 in
theorem faX2_44_X2 : FA RX2 44 2 8 := ⟨RX2, "LadderForge$Machine", TX2, 9, rfl, by decide, inwX2, Or.inl (gw_of (List.mem_append_right _ (List.mem_append_left _ (List.mem_of_getElem? (i := 130) rfl))) rfl), Or.inl rfl⟩
set_option maxRecDepth 50000 in
theorem wlX2_62 : Cond.methodLink RX2 62 yX2_obey ∈ gw := (gw_of (List.mem_append_right _ (List.mem_append_right _ (List.mem_append_left _ (List.mem_of_getElem? (i := 220) rfl)))) rfl)
set_option maxRecDepth 50000 in
theorem wlX2_47 : Cond.methodLink RX2 47 yX2_goThrough ∈ gw := (gw_of (List.mem_append_right _ (List.mem_append_right _ (List.mem_append_left _ (List.mem_of_getElem? (i := 207) rfl)))) rfl)
set_option maxRecDepth 50000 in
theorem wlX3_3 : Cond.methodLink RX3 3 objectInit ∈ gw := (gw_of (List.mem_append_right _ (List.mem_append_left _ (List.mem_of_getElem? (i := 52) rfl))) rfl)
set_option maxRecDepth 50000 in
theorem fnX3_9 : FN RX3 9 0 [.int 0, .null, .null, .int 0] := ⟨RX0, TX0, 4, tyX0, rfl, inwX0, tyX0_ok, (gw_of (List.mem_append_right _ (List.mem_append_left _ (List.mem_of_getElem? (i := 53) rfl))) rfl), (gw_of (List.mem_append_right _ (List.mem_append_left _ (List.mem_of_getElem? (i := 54) rfl))) rfl), (gw_of (List.mem_append_right _ (List.mem_append_left _ (List.mem_of_getElem? (i := 5) rfl))) rfl), by decide +kernel, rfl, fun _ => rfl⟩
set_option maxRecDepth 50000 in
theorem wlX3_11 : Cond.methodLink RX3 11 yX0_init ∈ gw := (gw_of (List.mem_append_right _ (List.mem_append_left _ (List.mem_of_getElem? (i := 55) rfl))) rfl)
set_option maxRecDepth 50000 in
theorem ffX3_14_X4 : FPF RX3 14 3 0 (.object "LadderForge$Code") := ⟨RX4, "LadderForge$Maker", TX4, 5, tyX4, rfl, by decide, inwX4, (gw_of (List.mem_append_right _ (List.mem_append_left _ (List.mem_of_getElem? (i := 79) rfl))) rfl), Or.inl rfl, tyX4_ok, nmX4, rfl, rfl, by decide +kernel⟩
set_option maxRecDepth 50000 in
theorem ffX3_14_X5 : FPF RX3 14 4 0 (.object "LadderForge$Code") := ⟨RX5, "LadderForge$Maker", TX5, 1, tyX5, rfl, by decide, inwX5, (gw_of (List.mem_append_right _ (List.mem_append_left _ (List.mem_of_getElem? (i := 79) rfl))) rfl), Or.inl rfl, tyX5_ok, nmX5, rfl, rfl, by decide +kernel⟩
set_option maxRecDepth 50000 in
theorem wlX4_3 : Cond.methodLinkNest RX4 3 yX3_init "LadderForge" ∈ nw := (List.mem_of_getElem? (i := 11) rfl)
set_option maxRecDepth 50000 in
theorem ffX4_11_X4 : FPF RX4 11 3 1 (.array .int) := ⟨RX4, "LadderForge$NamedMaker", TX4, 5, tyX4, rfl, by decide, inwX4, (gw_of (List.mem_append_right _ (List.mem_append_left _ (List.mem_of_getElem? (i := 94) rfl))) rfl), Or.inl rfl, tyX4_ok, nmX4, rfl, rfl, by decide +kernel⟩
set_option maxRecDepth 50000 in
theorem ffX4_15_X4 : FPF RX4 15 3 2 (.array .int) := ⟨RX4, "LadderForge$NamedMaker", TX4, 5, tyX4, rfl, by decide, inwX4, (gw_of (List.mem_append_right _ (List.mem_append_left _ (List.mem_of_getElem? (i := 95) rfl))) rfl), Or.inl rfl, tyX4_ok, nmX4, rfl, rfl, by decide +kernel⟩
set_option maxRecDepth 50000 in
theorem fpX4_18_X4 : FP RX4 18 3 3 .int := ⟨RX4, "LadderForge$NamedMaker", TX4, 5, tyX4, rfl, by decide, inwX4, Or.inl (gw_of (List.mem_append_right _ (List.mem_append_left _ (List.mem_of_getElem? (i := 96) rfl))) rfl), Or.inl rfl, tyX4_ok, nmX4, rfl, by decide +kernel⟩
set_option maxRecDepth 50000 in
theorem fpX4_22_X4 : FP RX4 22 3 4 .int := ⟨RX4, "LadderForge$NamedMaker", TX4, 5, tyX4, rfl, by decide, inwX4, Or.inl (gw_of (List.mem_append_right _ (List.mem_append_left _ (List.mem_of_getElem? (i := 97) rfl))) rfl), Or.inl rfl, tyX4_ok, nmX4, rfl, by decide +kernel⟩
set_option maxRecDepth 50000 in
theorem faX4_45_X4 : FA RX4 45 3 0 := ⟨RX4, "LadderForge$NamedMaker", TX4, 5, rfl, by decide, inwX4, Or.inl (gw_of (List.mem_append_right _ (List.mem_append_left _ (List.mem_of_getElem? (i := 82) rfl))) rfl), Or.inr (gw_of (List.mem_append_right _ (List.mem_append_left _ (List.mem_of_getElem? (i := 83) rfl))) rfl)⟩
set_option maxRecDepth 50000 in
theorem fpX4_49_X0 : FP RX4 49 0 3 .int := ⟨RX0, "LadderForge$Code", TX0, 4, tyX0, rfl, by decide, inwX0, Or.inr ⟨"LadderForge", (List.mem_of_getElem? (i := 7) rfl)⟩, Or.inl rfl, tyX0_ok, nmX0, rfl, by decide +kernel⟩
set_option maxRecDepth 50000 in
theorem faX4_11_X4 : FA RX4 11 3 1 := ⟨RX4, "LadderForge$NamedMaker", TX4, 5, rfl, by decide, inwX4, Or.inl (gw_of (List.mem_append_right _ (List.mem_append_left _ (List.mem_of_getElem? (i := 94) rfl))) rfl), Or.inl rfl⟩
set_option maxRecDepth 50000 in
theorem faX4_15_X4 : FA RX4 15 3 2 := ⟨RX4, "LadderForge$NamedMaker", TX4, 5, rfl, by decide, inwX4, Or.inl (gw_of (List.mem_append_right _ (List.mem_append_left _ (List.mem_of_getElem? (i := 95) rfl))) rfl), Or.inl rfl⟩
set_option maxRecDepth 50000 in
theorem wlX6_19 : Cond.methodLink RX6 19 yX6_at ∈ gw := (gw_of (List.mem_append_right _ (List.mem_append_left _ (List.mem_of_getElem? (i := 229) rfl))) rfl)
set_option maxRecDepth 50000 in
theorem wlX4_67 : Cond.methodLink RX4 67 yX4_isDigit ∈ gw := (gw_of (List.mem_append_right _ (List.mem_append_right _ (List.mem_append_left _ (List.mem_of_getElem? (i := 35) rfl)))) rfl)
set_option maxRecDepth 50000 in
theorem wlX4_70 : Cond.methodLink RX4 70 yX4_isSmall ∈ gw := (gw_of (List.mem_append_right _ (List.mem_append_right _ (List.mem_append_left _ (List.mem_of_getElem? (i := 38) rfl)))) rfl)
set_option maxRecDepth 50000 in
theorem wlX4_56 : Cond.methodLink RX4 56 yX6_at ∈ gw := (gw_of (List.mem_append_right _ (List.mem_append_right _ (List.mem_append_left _ (List.mem_of_getElem? (i := 28) rfl)))) rfl)
set_option maxRecDepth 50000 in
theorem wlX4_59 : Cond.methodLink RX4 59 yX4_isLetter ∈ gw := (gw_of (List.mem_append_right _ (List.mem_append_right _ (List.mem_append_left _ (List.mem_of_getElem? (i := 29) rfl)))) rfl)
set_option maxRecDepth 50000 in
theorem faX4_34_X6 : FA RX4 34 5 1 := ⟨RX6, "LadderForge$Text", TX6, 2, rfl, by decide, inwX6, Or.inr ⟨"LadderForge", (List.mem_of_getElem? (i := 2) rfl)⟩, Or.inl rfl⟩
set_option maxRecDepth 50000 in
theorem wlX4_63 : Cond.methodLink RX4 63 yX4_isMoreOf ∈ gw := (gw_of (List.mem_append_right _ (List.mem_append_right _ (List.mem_append_left _ (List.mem_of_getElem? (i := 32) rfl)))) rfl)
set_option maxRecDepth 50000 in
theorem faX4_18_X4 : FA RX4 18 3 3 := ⟨RX4, "LadderForge$NamedMaker", TX4, 5, rfl, by decide, inwX4, Or.inl (gw_of (List.mem_append_right _ (List.mem_append_left _ (List.mem_of_getElem? (i := 96) rfl))) rfl), Or.inl rfl⟩
set_option maxRecDepth 50000 in
theorem faX4_22_X4 : FA RX4 22 3 4 := ⟨RX4, "LadderForge$NamedMaker", TX4, 5, rfl, by decide, inwX4, Or.inl (gw_of (List.mem_append_right _ (List.mem_append_left _ (List.mem_of_getElem? (i := 97) rfl))) rfl), Or.inl rfl⟩
set_option maxRecDepth 50000 in
theorem faX4_49_X0 : FA RX4 49 0 3 := ⟨RX0, "LadderForge$Code", TX0, 4, rfl, by decide, inwX0, Or.inr ⟨"LadderForge", (List.mem_of_getElem? (i := 7) rfl)⟩, Or.inl rfl⟩
set_option maxRecDepth 50000 in
theorem wlX4_95 : Cond.methodLink RX4 95 yX0_add ∈ gw := (gw_of (List.mem_append_right _ (List.mem_append_right _ (List.mem_append_left _ (List.mem_of_getElem? (i := 53) rfl)))) rfl)
set_option maxRecDepth 50000 in
theorem wlX4_98 : Cond.methodLink RX4 98 yX2_hasNumber ∈ gw := (gw_of (List.mem_append_right _ (List.mem_append_right _ (List.mem_append_left _ (List.mem_of_getElem? (i := 124) rfl)))) rfl)
set_option maxRecDepth 50000 in
theorem wlX4_73 : Cond.methodLink RX4 73 yX4_takesColon ∈ gw := (gw_of (List.mem_append_right _ (List.mem_append_right _ (List.mem_append_left _ (List.mem_of_getElem? (i := 45) rfl)))) rfl)
set_option maxRecDepth 50000 in
theorem wlX4_76 : Cond.methodLink RX4 76 yX4_takesLetter ∈ gw := (gw_of (List.mem_append_right _ (List.mem_append_right _ (List.mem_append_left _ (List.mem_of_getElem? (i := 49) rfl)))) rfl)
set_option maxRecDepth 50000 in
theorem wlX4_79 : Cond.methodLink RX4 79 yX4_takesPlace ∈ gw := (gw_of (List.mem_append_right _ (List.mem_append_right _ (List.mem_append_left _ (List.mem_of_getElem? (i := 57) rfl)))) rfl)
set_option maxRecDepth 50000 in
theorem wlX4_82 : Cond.methodLink RX4 82 yX4_valueOf ∈ gw := (gw_of (List.mem_append_right _ (List.mem_append_right _ (List.mem_append_left _ (List.mem_of_getElem? (i := 61) rfl)))) rfl)
set_option maxRecDepth 50000 in
theorem wlX4_86 : Cond.methodLink RX4 86 yX4_takesNumber ∈ gw := (gw_of (List.mem_append_right _ (List.mem_append_right _ (List.mem_append_left _ (List.mem_of_getElem? (i := 64) rfl)))) rfl)
set_option maxRecDepth 50000 in
theorem wlX4_89 : Cond.methodLink RX4 89 yX4_wordOf ∈ gw := (gw_of (List.mem_append_right _ (List.mem_append_right _ (List.mem_append_left _ (List.mem_of_getElem? (i := 68) rfl)))) rfl)
set_option maxRecDepth 50000 in
theorem wlX4_92 : Cond.methodLink RX4 92 yX4_takesWord ∈ gw := (gw_of (List.mem_append_right _ (List.mem_append_right _ (List.mem_append_left _ (List.mem_of_getElem? (i := 120) rfl)))) rfl)
set_option maxRecDepth 50000 in
theorem wlX4_113 : Cond.methodLink RX4 113 yX0_ledAt ∈ gw := (gw_of (List.mem_append_right _ (List.mem_append_right _ (List.mem_append_left _ (List.mem_of_getElem? (i := 131) rfl)))) rfl)
set_option maxRecDepth 50000 in
theorem wlX4_116 : Cond.methodLink RX4 116 yX0_change ∈ gw := (gw_of (List.mem_append_right _ (List.mem_append_right _ (List.mem_append_left _ (List.mem_of_getElem? (i := 135) rfl)))) rfl)
set_option maxRecDepth 50000 in
theorem wlX4_25 : Cond.methodLink RX4 25 yX4_begin ∈ gw := (gw_of (List.mem_append_right _ (List.mem_append_right _ (List.mem_append_left _ (List.mem_of_getElem? (i := 17) rfl)))) rfl)
set_option maxRecDepth 50000 in
theorem wlX4_28 : Cond.methodLink RX4 28 yX6_pastGap ∈ gw := (gw_of (List.mem_append_right _ (List.mem_append_right _ (List.mem_append_left _ (List.mem_of_getElem? (i := 21) rfl)))) rfl)
set_option maxRecDepth 50000 in
theorem wlX4_37 : Cond.methodLink RX4 37 yX4_tokenSigns ∈ gw := (gw_of (List.mem_append_right _ (List.mem_append_right _ (List.mem_append_left _ (List.mem_of_getElem? (i := 25) rfl)))) rfl)
set_option maxRecDepth 50000 in
theorem wlX4_41 : Cond.methodLink RX4 41 yX4_takes ∈ gw := (gw_of (List.mem_append_right _ (List.mem_append_right _ (List.mem_append_left _ (List.mem_of_getElem? (i := 41) rfl)))) rfl)
set_option maxRecDepth 50000 in
theorem wlX4_52 : Cond.methodLink RX4 52 yX4_putPlaces ∈ gw := (gw_of (List.mem_append_right _ (List.mem_append_right _ (List.mem_append_left _ (List.mem_of_getElem? (i := 127) rfl)))) rfl)
set_option maxRecDepth 50000 in
theorem wlX5_3 : Cond.methodLinkNest RX5 3 yX3_init "LadderForge" ∈ nw := (List.mem_of_getElem? (i := 5) rfl)
set_option maxRecDepth 50000 in
theorem faX5_9_X5 : FA RX5 9 4 0 := ⟨RX5, "LadderForge$PairsMaker", TX5, 1, rfl, by decide, inwX5, Or.inl (gw_of (List.mem_append_right _ (List.mem_append_left _ (List.mem_of_getElem? (i := 80) rfl))) rfl), Or.inr (gw_of (List.mem_append_right _ (List.mem_append_left _ (List.mem_of_getElem? (i := 81) rfl))) rfl)⟩
set_option maxRecDepth 50000 in
theorem fpX5_15_X0 : FP RX5 15 0 3 .int := ⟨RX0, "LadderForge$Code", TX0, 4, tyX0, rfl, by decide, inwX0, Or.inr ⟨"LadderForge", (List.mem_of_getElem? (i := 6) rfl)⟩, Or.inl rfl, tyX0_ok, nmX0, rfl, by decide +kernel⟩
set_option maxRecDepth 50000 in
theorem wlX5_21 : Cond.methodLink RX5 21 yX6_pastGap ∈ gw := (gw_of (List.mem_append_right _ (List.mem_append_right _ (List.mem_append_left _ (List.mem_of_getElem? (i := 142) rfl)))) rfl)
set_option maxRecDepth 50000 in
theorem faX5_27_X6 : FA RX5 27 5 1 := ⟨RX6, "LadderForge$Text", TX6, 2, rfl, by decide, inwX6, Or.inr ⟨"LadderForge", (List.mem_of_getElem? (i := 3) rfl)⟩, Or.inl rfl⟩
set_option maxRecDepth 50000 in
theorem wlX5_28 : Cond.methodLink RX5 28 yX6_at ∈ gw := (gw_of (List.mem_append_right _ (List.mem_append_right _ (List.mem_append_left _ (List.mem_of_getElem? (i := 143) rfl)))) rfl)
set_option maxRecDepth 50000 in
theorem wlX5_31 : Cond.methodLink RX5 31 yX5_digit ∈ gw := (gw_of (List.mem_append_right _ (List.mem_append_right _ (List.mem_append_left _ (List.mem_of_getElem? (i := 144) rfl)))) rfl)
set_option maxRecDepth 50000 in
theorem wlX5_34 : Cond.methodLink RX5 34 yX0_add ∈ gw := (gw_of (List.mem_append_right _ (List.mem_append_right _ (List.mem_append_left _ (List.mem_of_getElem? (i := 147) rfl)))) rfl)
set_option maxRecDepth 50000 in
theorem faX5_15_X0 : FA RX5 15 0 3 := ⟨RX0, "LadderForge$Code", TX0, 4, rfl, by decide, inwX0, Or.inr ⟨"LadderForge", (List.mem_of_getElem? (i := 6) rfl)⟩, Or.inl rfl⟩
set_option maxRecDepth 50000 in
theorem wlX6_3 : Cond.methodLink RX6 3 objectInit ∈ gw := (gw_of (List.mem_append_right _ (List.mem_append_left _ (List.mem_of_getElem? (i := 29) rfl))) rfl)
set_option maxRecDepth 50000 in
theorem ffX6_9_X6 : FPF RX6 9 5 0 (.array .int) := ⟨RX6, "LadderForge$Text", TX6, 2, tyX6, rfl, by decide, inwX6, (gw_of (List.mem_append_right _ (List.mem_append_left _ (List.mem_of_getElem? (i := 30) rfl))) rfl), Or.inl rfl, tyX6_ok, nmX6, rfl, rfl, by decide +kernel⟩
set_option maxRecDepth 50000 in
theorem fpX6_15_X6 : FP RX6 15 5 1 .int := ⟨RX6, "LadderForge$Text", TX6, 2, tyX6, rfl, by decide, inwX6, Or.inl (gw_of (List.mem_append_right _ (List.mem_append_left _ (List.mem_of_getElem? (i := 31) rfl))) rfl), Or.inl rfl, tyX6_ok, nmX6, rfl, by decide +kernel⟩
set_option maxRecDepth 50000 in
theorem wlX6_23 : Cond.methodLink RX6 23 yX6_add ∈ gw := (gw_of (List.mem_append_right _ (List.mem_append_left _ (List.mem_of_getElem? (i := 233) rfl))) rfl)
set_option maxRecDepth 50000 in
theorem wlX7_1 : Cond.methodLink RX7 1 objectInit ∈ gw := (gw_of (List.mem_append_right _ (List.mem_append_right _ (List.mem_append_left _ (List.mem_of_getElem? (i := 168) rfl)))) rfl)
set_option maxRecDepth 50000 in
theorem fpX7_7_X7 : FP RX7 7 6 4 .boolean := ⟨RX7, "LadderForge$Tool", TX7, 5, tyX7, rfl, by decide, inwX7, Or.inl (gw_of (List.mem_append_right _ (List.mem_append_right _ (List.mem_append_left _ (List.mem_of_getElem? (i := 177) rfl)))) rfl), Or.inl rfl, tyX7_ok, nmX7, rfl, by decide +kernel⟩
set_option maxRecDepth 50000 in
theorem ffX7_13_X7 : FPF RX7 13 6 0 (.object "LadderForge$Code") := ⟨RX7, "LadderForge$Tool", TX7, 5, tyX7, rfl, by decide, inwX7, (gw_of (List.mem_append_right _ (List.mem_append_right _ (List.mem_append_left _ (List.mem_of_getElem? (i := 169) rfl)))) rfl), Or.inl rfl, tyX7_ok, nmX7, rfl, rfl, by decide +kernel⟩
set_option maxRecDepth 50000 in
theorem ffX7_17_X7 : FPF RX7 17 6 1 .int := ⟨RX7, "LadderForge$Tool", TX7, 5, tyX7, rfl, by decide, inwX7, (gw_of (List.mem_append_right _ (List.mem_append_right _ (List.mem_append_left _ (List.mem_of_getElem? (i := 171) rfl)))) rfl), Or.inl rfl, tyX7_ok, nmX7, rfl, rfl, by decide +kernel⟩
set_option maxRecDepth 50000 in
theorem ffX7_21_X7 : FPF RX7 21 6 2 .int := ⟨RX7, "LadderForge$Tool", TX7, 5, tyX7, rfl, by decide, inwX7, (gw_of (List.mem_append_right _ (List.mem_append_right _ (List.mem_append_left _ (List.mem_of_getElem? (i := 173) rfl)))) rfl), Or.inl rfl, tyX7_ok, nmX7, rfl, rfl, by decide +kernel⟩
set_option maxRecDepth 50000 in
theorem ffX7_24_X7 : FPF RX7 24 6 3 .int := ⟨RX7, "LadderForge$Tool", TX7, 5, tyX7, rfl, by decide, inwX7, (gw_of (List.mem_append_right _ (List.mem_append_right _ (List.mem_append_left _ (List.mem_of_getElem? (i := 175) rfl)))) rfl), Or.inl rfl, tyX7_ok, nmX7, rfl, rfl, by decide +kernel⟩
set_option maxRecDepth 50000 in
theorem wlX8_1 : Cond.methodLink RX8 1 objectInit ∈ gw := (gw_of (List.mem_append_right _ (List.mem_append_left _ (List.mem_of_getElem? (i := 21) rfl))) rfl)
set_option maxRecDepth 50000 in
theorem fnX8_7 : FN RX8 7 5 [.null, .int 0] := ⟨RX6, TX6, 2, tyX6, rfl, inwX6, tyX6_ok, (gw_of (List.mem_append_right _ (List.mem_append_left _ (List.mem_of_getElem? (i := 24) rfl))) rfl), (gw_of (List.mem_append_right _ (List.mem_append_left _ (List.mem_of_getElem? (i := 25) rfl))) rfl), (gw_of (List.mem_append_right _ (List.mem_append_left _ (List.mem_of_getElem? (i := 2) rfl))) rfl), by decide +kernel, rfl, fun _ => rfl⟩
set_option maxRecDepth 50000 in
theorem wlX8_9 : Cond.methodLinkNest RX8 9 yX6_init "LadderForge" ∈ nw := (List.mem_of_getElem? (i := 0) rfl)
set_option maxRecDepth 50000 in
theorem ffX8_10_X8 : FPF RX8 10 7 0 (.object "LadderForge$Text") := ⟨RX8, "LadderForge", TX8, 11, tyX8, rfl, by decide, inwX8, (gw_of (List.mem_append_right _ (List.mem_append_left _ (List.mem_of_getElem? (i := 171) rfl))) rfl), Or.inl rfl, tyX8_ok, nmX8, rfl, rfl, by decide +kernel⟩
set_option maxRecDepth 50000 in
theorem wkX8_7 : Cond.classLink RX8 7 (kcl 2) ∈ gw := (gw_of (List.mem_append_right _ (List.mem_append_left _ (List.mem_of_getElem? (i := 24) rfl))) rfl)
set_option maxRecDepth 50000 in
theorem ffX8_16_X8 : FPF RX8 16 7 1 (.array (.object "LadderForge$Text")) := ⟨RX8, "LadderForge", TX8, 11, tyX8, rfl, by decide, inwX8, (gw_of (List.mem_append_right _ (List.mem_append_left _ (List.mem_of_getElem? (i := 172) rfl))) rfl), Or.inl rfl, tyX8_ok, nmX8, rfl, rfl, by decide +kernel⟩
set_option maxRecDepth 50000 in
theorem wkX8_20 : Cond.classLink RX8 20 (kcl 3) ∈ gw := (gw_of (List.mem_append_right _ (List.mem_append_left _ (List.mem_of_getElem? (i := 42) rfl))) rfl)
set_option maxRecDepth 50000 in
theorem ffX8_22_X8 : FPF RX8 22 7 2 (.array (.object "LadderForge$Tool")) := ⟨RX8, "LadderForge", TX8, 11, tyX8, rfl, by decide, inwX8, (gw_of (List.mem_append_right _ (List.mem_append_left _ (List.mem_of_getElem? (i := 173) rfl))) rfl), Or.inl rfl, tyX8_ok, nmX8, rfl, rfl, by decide +kernel⟩
set_option maxRecDepth 50000 in
theorem fpX8_26_X8 : FP RX8 26 7 3 .int := ⟨RX8, "LadderForge", TX8, 11, tyX8, rfl, by decide, inwX8, Or.inl (gw_of (List.mem_append_right _ (List.mem_append_left _ (List.mem_of_getElem? (i := 174) rfl))) rfl), Or.inl rfl, tyX8_ok, nmX8, rfl, by decide +kernel⟩
set_option maxRecDepth 50000 in
theorem fnX8_30 : FN RX8 30 4 [.null] := ⟨RX5, TX5, 1, tyX5, rfl, inwX5, tyX5_ok, (gw_of (List.mem_append_right _ (List.mem_append_left _ (List.mem_of_getElem? (i := 44) rfl))) rfl), (gw_of (List.mem_append_right _ (List.mem_append_left _ (List.mem_of_getElem? (i := 45) rfl))) rfl), (gw_of (List.mem_append_right _ (List.mem_append_left _ (List.mem_of_getElem? (i := 4) rfl))) rfl), by decide +kernel, rfl, fun _ => rfl⟩
set_option maxRecDepth 50000 in
theorem wlX8_32 : Cond.methodLinkNest RX8 32 yX5_init "LadderForge" ∈ nw := (List.mem_of_getElem? (i := 4) rfl)
set_option maxRecDepth 50000 in
theorem ffX8_33_X8 : FPF RX8 33 7 4 (.object "LadderForge$Maker") := ⟨RX8, "LadderForge", TX8, 11, tyX8, rfl, by decide, inwX8, (gw_of (List.mem_append_right _ (List.mem_append_left _ (List.mem_of_getElem? (i := 175) rfl))) rfl), Or.inl rfl, tyX8_ok, nmX8, rfl, rfl, by decide +kernel⟩
set_option maxRecDepth 50000 in
theorem fnX8_37 : FN RX8 37 3 [.null, .null, .null, .int 0, .int 0] := ⟨RX4, TX4, 5, tyX4, rfl, inwX4, tyX4_ok, (gw_of (List.mem_append_right _ (List.mem_append_left _ (List.mem_of_getElem? (i := 88) rfl))) rfl), (gw_of (List.mem_append_right _ (List.mem_append_left _ (List.mem_of_getElem? (i := 89) rfl))) rfl), (gw_of (List.mem_append_right _ (List.mem_append_left _ (List.mem_of_getElem? (i := 7) rfl))) rfl), by decide +kernel, rfl, fun _ => rfl⟩
set_option maxRecDepth 50000 in
theorem wlX8_39 : Cond.methodLinkNest RX8 39 yX4_init "LadderForge" ∈ nw := (List.mem_of_getElem? (i := 10) rfl)
set_option maxRecDepth 50000 in
theorem ffX8_40_X8 : FPF RX8 40 7 5 (.object "LadderForge$Maker") := ⟨RX8, "LadderForge", TX8, 11, tyX8, rfl, by decide, inwX8, (gw_of (List.mem_append_right _ (List.mem_append_left _ (List.mem_of_getElem? (i := 176) rfl))) rfl), Or.inl rfl, tyX8_ok, nmX8, rfl, rfl, by decide +kernel⟩
set_option maxRecDepth 50000 in
theorem fnX8_43 : FN RX8 43 2 [.null, .null, .int 0, .int 0, .int 0, .int 0, .int 0, .int 0, .int 0] := ⟨RX2, TX2, 9, tyX2, rfl, inwX2, tyX2_ok, (gw_of (List.mem_append_right _ (List.mem_append_left _ (List.mem_of_getElem? (i := 108) rfl))) rfl), (gw_of (List.mem_append_right _ (List.mem_append_left _ (List.mem_of_getElem? (i := 109) rfl))) rfl), (gw_of (List.mem_append_right _ (List.mem_append_left _ (List.mem_of_getElem? (i := 8) rfl))) rfl), by decide +kernel, rfl, fun _ => rfl⟩
set_option maxRecDepth 50000 in
theorem wlX8_45 : Cond.methodLinkNest RX8 45 yX2_init "LadderForge" ∈ nw := (List.mem_of_getElem? (i := 12) rfl)
set_option maxRecDepth 50000 in
theorem ffX8_46_X8 : FPF RX8 46 7 6 (.object "LadderForge$Machine") := ⟨RX8, "LadderForge", TX8, 11, tyX8, rfl, by decide, inwX8, (gw_of (List.mem_append_right _ (List.mem_append_left _ (List.mem_of_getElem? (i := 177) rfl))) rfl), Or.inl rfl, tyX8_ok, nmX8, rfl, rfl, by decide +kernel⟩
set_option maxRecDepth 50000 in
theorem ffX8_50_X8 : FPF RX8 50 7 7 (.object "LadderForge$Machine") := ⟨RX8, "LadderForge", TX8, 11, tyX8, rfl, by decide, inwX8, (gw_of (List.mem_append_right _ (List.mem_append_left _ (List.mem_of_getElem? (i := 178) rfl))) rfl), Or.inl rfl, tyX8_ok, nmX8, rfl, rfl, by decide +kernel⟩
set_option maxRecDepth 50000 in
theorem ffX8_53_X8 : FPF RX8 53 7 8 (.object "LadderForge$Machine") := ⟨RX8, "LadderForge", TX8, 11, tyX8, rfl, by decide, inwX8, (gw_of (List.mem_append_right _ (List.mem_append_left _ (List.mem_of_getElem? (i := 179) rfl))) rfl), Or.inl rfl, tyX8_ok, nmX8, rfl, rfl, by decide +kernel⟩
set_option maxRecDepth 50000 in
theorem fnX8_56 : FN RX8 56 1 [.null, .null, .null, .int 0] := ⟨RX1, TX1, 4, tyX1, rfl, inwX1, tyX1_ok, (gw_of (List.mem_append_right _ (List.mem_append_left _ (List.mem_of_getElem? (i := 151) rfl))) rfl), (gw_of (List.mem_append_right _ (List.mem_append_left _ (List.mem_of_getElem? (i := 152) rfl))) rfl), (gw_of (List.mem_append_right _ (List.mem_append_left _ (List.mem_of_getElem? (i := 9) rfl))) rfl), by decide +kernel, rfl, fun _ => rfl⟩
set_option maxRecDepth 50000 in
theorem wlX8_58 : Cond.methodLinkNest RX8 58 yX1_init "LadderForge" ∈ nw := (List.mem_of_getElem? (i := 20) rfl)
set_option maxRecDepth 50000 in
theorem ffX8_59_X8 : FPF RX8 59 7 9 (.object "LadderForge$Editions") := ⟨RX8, "LadderForge", TX8, 11, tyX8, rfl, by decide, inwX8, (gw_of (List.mem_append_right _ (List.mem_append_left _ (List.mem_of_getElem? (i := 180) rfl))) rfl), Or.inl rfl, tyX8_ok, nmX8, rfl, rfl, by decide +kernel⟩
set_option maxRecDepth 50000 in
theorem fpX8_63_X8 : FP RX8 63 7 10 .long := ⟨RX8, "LadderForge", TX8, 11, tyX8, rfl, by decide, inwX8, Or.inl (gw_of (List.mem_append_right _ (List.mem_append_left _ (List.mem_of_getElem? (i := 181) rfl))) rfl), Or.inl rfl, tyX8_ok, nmX8, rfl, by decide +kernel⟩
set_option maxRecDepth 50000 in
theorem faX8_16_X8 : FA RX8 16 7 1 := ⟨RX8, "LadderForge", TX8, 11, rfl, by decide, inwX8, Or.inl (gw_of (List.mem_append_right _ (List.mem_append_left _ (List.mem_of_getElem? (i := 172) rfl))) rfl), Or.inl rfl⟩
set_option maxRecDepth 50000 in
theorem faX8_10_X8 : FA RX8 10 7 0 := ⟨RX8, "LadderForge", TX8, 11, rfl, by decide, inwX8, Or.inl (gw_of (List.mem_append_right _ (List.mem_append_left _ (List.mem_of_getElem? (i := 171) rfl))) rfl), Or.inl rfl⟩
set_option maxRecDepth 50000 in
theorem faX8_67_X6 : FA RX8 67 5 1 := ⟨RX6, "LadderForge$Text", TX6, 2, rfl, by decide, inwX6, Or.inr ⟨"LadderForge", (List.mem_of_getElem? (i := 1) rfl)⟩, Or.inl rfl⟩
set_option maxRecDepth 50000 in
theorem wlX8_70 : Cond.methodLink RX8 70 yX6_add ∈ gw := (gw_of (List.mem_append_right _ (List.mem_append_left _ (List.mem_of_getElem? (i := 209) rfl))) rfl)
set_option maxRecDepth 50000 in
theorem fpX8_67_X6 : FP RX8 67 5 1 .int := ⟨RX6, "LadderForge$Text", TX6, 2, tyX6, rfl, by decide, inwX6, Or.inr ⟨"LadderForge", (List.mem_of_getElem? (i := 1) rfl)⟩, Or.inl rfl, tyX6_ok, nmX6, rfl, by decide +kernel⟩
set_option maxRecDepth 50000 in
theorem wlX8_74 : Cond.methodLink RX8 74 yX8_textAt ∈ gw := (gw_of (List.mem_append_right _ (List.mem_append_left _ (List.mem_of_getElem? (i := 221) rfl))) rfl)
set_option maxRecDepth 50000 in
theorem wlX8_78 : Cond.methodLink RX8 78 yX6_become ∈ gw := (gw_of (List.mem_append_right _ (List.mem_append_left _ (List.mem_of_getElem? (i := 225) rfl))) rfl)
set_option maxRecDepth 50000 in
theorem wlX8_82 : Cond.methodLink RX8 82 yX6_at ∈ gw := (gw_of (List.mem_append_right _ (List.mem_append_left _ (List.mem_of_getElem? (i := 238) rfl))) rfl)
set_option maxRecDepth 50000 in
theorem faX8_33_X8 : FA RX8 33 7 4 := ⟨RX8, "LadderForge", TX8, 11, rfl, by decide, inwX8, Or.inl (gw_of (List.mem_append_right _ (List.mem_append_left _ (List.mem_of_getElem? (i := 175) rfl))) rfl), Or.inl rfl⟩
set_option maxRecDepth 50000 in
theorem faX8_40_X8 : FA RX8 40 7 5 := ⟨RX8, "LadderForge", TX8, 11, rfl, by decide, inwX8, Or.inl (gw_of (List.mem_append_right _ (List.mem_append_left _ (List.mem_of_getElem? (i := 176) rfl))) rfl), Or.inl rfl⟩
set_option maxRecDepth 50000 in
theorem faX8_26_X8 : FA RX8 26 7 3 := ⟨RX8, "LadderForge", TX8, 11, rfl, by decide, inwX8, Or.inl (gw_of (List.mem_append_right _ (List.mem_append_left _ (List.mem_of_getElem? (i := 174) rfl))) rfl), Or.inl rfl⟩
set_option maxRecDepth 50000 in
theorem faX8_22_X8 : FA RX8 22 7 2 := ⟨RX8, "LadderForge", TX8, 11, rfl, by decide, inwX8, Or.inl (gw_of (List.mem_append_right _ (List.mem_append_left _ (List.mem_of_getElem? (i := 173) rfl))) rfl), Or.inl rfl⟩
set_option maxRecDepth 50000 in
theorem fnX8_20 : FN RX8 20 6 [.null, .int 0, .int 0, .int 0, .int 0] := ⟨RX7, TX7, 5, tyX7, rfl, inwX7, tyX7_ok, (gw_of (List.mem_append_right _ (List.mem_append_left _ (List.mem_of_getElem? (i := 42) rfl))) rfl), (gw_of (List.mem_append_right _ (List.mem_append_right _ (List.mem_append_left _ (List.mem_of_getElem? (i := 152) rfl)))) rfl), (gw_of (List.mem_append_right _ (List.mem_append_left _ (List.mem_of_getElem? (i := 15) rfl))) rfl), by decide +kernel, rfl, fun _ => rfl⟩
set_option maxRecDepth 50000 in
theorem wlX8_241 : Cond.methodLink RX8 241 yX0_copied ∈ gw := (gw_of (List.mem_append_right _ (List.mem_append_right _ (List.mem_append_left _ (List.mem_of_getElem? (i := 153) rfl)))) rfl)
set_option maxRecDepth 50000 in
theorem wlX8_245 : Cond.methodLink RX8 245 yX7_init ∈ gw := (gw_of (List.mem_append_right _ (List.mem_append_right _ (List.mem_append_left _ (List.mem_of_getElem? (i := 165) rfl)))) rfl)
set_option maxRecDepth 50000 in
theorem wlX8_228 : Cond.methodLink RX8 228 yX8_makerBy ∈ gw := (gw_of (List.mem_append_right _ (List.mem_append_right _ (List.mem_append_left _ (List.mem_of_getElem? (i := 7) rfl)))) rfl)
def yMk_faultIn : MethodName := ⟨"LadderForge$Maker", "faultIn", "(LLadderForge$Text;)I"⟩
set_option maxRecDepth 50000 in
theorem wlX8_232 : Cond.methodLink RX8 232 yMk_faultIn ∈ gw := (gw_of (List.mem_append_right _ (List.mem_append_right _ (List.mem_append_left _ (List.mem_of_getElem? (i := 11) rfl)))) rfl)
set_option maxRecDepth 50000 in
theorem wsmMk : Cond.sameMethod "LadderForge$Maker" "LadderForge$Maker" "faultIn" "(LLadderForge$Text;)I" ∈ gw := (gw_of (List.mem_append_right _ (List.mem_append_right _ (List.mem_append_left _ (List.mem_of_getElem? (i := 13) rfl)))) rfl)
set_option maxRecDepth 50000 in
theorem wdMk : Cond.declares yMk_faultIn ∈ nw := (List.mem_of_getElem? (i := 22) rfl)
set_option maxRecDepth 50000 in
theorem wsaX4 : Cond.selects RX4 yMk_faultIn yX4_faultIn ∈ gw := (gw_of (List.mem_append_right _ (List.mem_append_right _ (List.mem_append_left _ (List.mem_of_getElem? (i := 14) rfl)))) rfl)
set_option maxRecDepth 50000 in
theorem wsaX5 : Cond.selects RX5 yMk_faultIn yX5_faultIn ∈ gw := (gw_of (List.mem_append_right _ (List.mem_append_right _ (List.mem_append_left _ (List.mem_of_getElem? (i := 139) rfl)))) rfl)
set_option maxRecDepth 50000 in
theorem faX8_238_X4 : FA RX8 238 3 0 := ⟨RX4, "LadderForge$Maker", TX4, 5, rfl, by decide, inwX4, Or.inl (gw_of (List.mem_append_right _ (List.mem_append_left _ (List.mem_of_getElem? (i := 84) rfl))) rfl), Or.inl rfl⟩
set_option maxRecDepth 50000 in
theorem faX8_238_X5 : FA RX8 238 4 0 := ⟨RX5, "LadderForge$Maker", TX5, 1, rfl, by decide, inwX5, Or.inl (gw_of (List.mem_append_right _ (List.mem_append_left _ (List.mem_of_getElem? (i := 84) rfl))) rfl), Or.inl rfl⟩
set_option maxRecDepth 50000 in
theorem wlX8_105 : Cond.methodLink RX8 105 yX8_keep ∈ gw := (gw_of (List.mem_append_right _ (List.mem_append_right _ (List.mem_append_left _ (List.mem_of_getElem? (i := 148) rfl)))) rfl)
set_option maxRecDepth 50000 in
theorem wlX8_86 : Cond.methodLink RX8 86 yX8_make ∈ gw := (gw_of (List.mem_append_right _ (List.mem_append_right _ (List.mem_append_left _ (List.mem_of_getElem? (i := 3) rfl)))) rfl)
set_option maxRecDepth 50000 in
theorem wlX8_90 : Cond.methodLink RX8 90 yX8_toolAt ∈ gw := (gw_of (List.mem_append_right _ (List.mem_append_right _ (List.mem_append_left _ (List.mem_of_getElem? (i := 199) rfl)))) rfl)
set_option maxRecDepth 50000 in
theorem faX8_50_X8 : FA RX8 50 7 7 := ⟨RX8, "LadderForge", TX8, 11, rfl, by decide, inwX8, Or.inl (gw_of (List.mem_append_right _ (List.mem_append_left _ (List.mem_of_getElem? (i := 178) rfl))) rfl), Or.inl rfl⟩
set_option maxRecDepth 50000 in
theorem faX8_94_X7 : FA RX8 94 6 0 := ⟨RX7, "LadderForge$Tool", TX7, 5, rfl, by decide, inwX7, Or.inr ⟨"LadderForge", (List.mem_of_getElem? (i := 23) rfl)⟩, Or.inl rfl⟩
set_option maxRecDepth 50000 in
theorem wlX8_98 : Cond.methodLink RX8 98 yX2_builds ∈ gw := (gw_of (List.mem_append_right _ (List.mem_append_right _ (List.mem_append_left _ (List.mem_of_getElem? (i := 203) rfl)))) rfl)
set_option maxRecDepth 50000 in
theorem faX8_102_X2 : FA RX8 102 2 1 := ⟨RX2, "LadderForge$Machine", TX2, 9, rfl, by decide, inwX2, Or.inr ⟨"LadderForge", (List.mem_of_getElem? (i := 13) rfl)⟩, Or.inl rfl⟩
set_option maxRecDepth 50000 in
theorem faX8_109_X0 : FA RX8 109 0 3 := ⟨RX0, "LadderForge$Code", TX0, 4, rfl, by decide, inwX0, Or.inr ⟨"LadderForge", (List.mem_of_getElem? (i := 9) rfl)⟩, Or.inl rfl⟩
set_option maxRecDepth 50000 in
theorem faX8_112_X7 : FA RX8 112 6 1 := ⟨RX7, "LadderForge$Tool", TX7, 5, rfl, by decide, inwX7, Or.inr ⟨"LadderForge", (List.mem_of_getElem? (i := 24) rfl)⟩, Or.inl rfl⟩
set_option maxRecDepth 50000 in
theorem faX8_115_X7 : FA RX8 115 6 2 := ⟨RX7, "LadderForge$Tool", TX7, 5, rfl, by decide, inwX7, Or.inr ⟨"LadderForge", (List.mem_of_getElem? (i := 25) rfl)⟩, Or.inl rfl⟩
set_option maxRecDepth 50000 in
theorem faX8_118_X7 : FA RX8 118 6 3 := ⟨RX7, "LadderForge$Tool", TX7, 5, rfl, by decide, inwX7, Or.inr ⟨"LadderForge", (List.mem_of_getElem? (i := 26) rfl)⟩, Or.inl rfl⟩
set_option maxRecDepth 50000 in
theorem faX8_121_X7 : FA RX8 121 6 4 := ⟨RX7, "LadderForge$Tool", TX7, 5, rfl, by decide, inwX7, Or.inr ⟨"LadderForge", (List.mem_of_getElem? (i := 27) rfl)⟩, Or.inl rfl⟩
set_option maxRecDepth 50000 in
theorem wlX8_125 : Cond.methodLink RX8 125 yX0_at ∈ gw := (gw_of (List.mem_append_right _ (List.mem_append_right _ (List.mem_append_right _ (List.mem_append_left _ (List.mem_of_getElem? (i := 2) rfl))))) rfl)
set_option maxRecDepth 50000 in
theorem wlX8_126 : Cond.methodLink RX8 126 yX0_ledAt ∈ gw := (gw_of (List.mem_append_right _ (List.mem_append_right _ (List.mem_append_right _ (List.mem_append_left _ (List.mem_of_getElem? (i := 3) rfl))))) rfl)
set_option maxRecDepth 50000 in
theorem faX8_46_X8 : FA RX8 46 7 6 := ⟨RX8, "LadderForge", TX8, 11, rfl, by decide, inwX8, Or.inl (gw_of (List.mem_append_right _ (List.mem_append_left _ (List.mem_of_getElem? (i := 177) rfl))) rfl), Or.inl rfl⟩
set_option maxRecDepth 50000 in
theorem wlX8_129 : Cond.methodLink RX8 129 yX2_goThrough ∈ gw := (gw_of (List.mem_append_right _ (List.mem_append_right _ (List.mem_append_right _ (List.mem_append_left _ (List.mem_of_getElem? (i := 8) rfl))))) rfl)
set_option maxRecDepth 50000 in
theorem faX8_133_X2 : FA RX8 133 2 8 := ⟨RX2, "LadderForge$Machine", TX2, 9, rfl, by decide, inwX2, Or.inr ⟨"LadderForge", (List.mem_of_getElem? (i := 19) rfl)⟩, Or.inl rfl⟩
set_option maxRecDepth 50000 in
theorem faX8_136_X2 : FA RX8 136 2 6 := ⟨RX2, "LadderForge$Machine", TX2, 9, rfl, by decide, inwX2, Or.inr ⟨"LadderForge", (List.mem_of_getElem? (i := 17) rfl)⟩, Or.inl rfl⟩
set_option maxRecDepth 50000 in
theorem faX8_139_X2 : FA RX8 139 2 7 := ⟨RX2, "LadderForge$Machine", TX2, 9, rfl, by decide, inwX2, Or.inr ⟨"LadderForge", (List.mem_of_getElem? (i := 18) rfl)⟩, Or.inl rfl⟩
set_option maxRecDepth 50000 in
theorem faX8_142_X2 : FA RX8 142 2 2 := ⟨RX2, "LadderForge$Machine", TX2, 9, rfl, by decide, inwX2, Or.inr ⟨"LadderForge", (List.mem_of_getElem? (i := 14) rfl)⟩, Or.inl rfl⟩
set_option maxRecDepth 50000 in
theorem faX8_145_X2 : FA RX8 145 2 3 := ⟨RX2, "LadderForge$Machine", TX2, 9, rfl, by decide, inwX2, Or.inr ⟨"LadderForge", (List.mem_of_getElem? (i := 15) rfl)⟩, Or.inl rfl⟩
set_option maxRecDepth 50000 in
theorem faX8_148_X2 : FA RX8 148 2 4 := ⟨RX2, "LadderForge$Machine", TX2, 9, rfl, by decide, inwX2, Or.inr ⟨"LadderForge", (List.mem_of_getElem? (i := 16) rfl)⟩, Or.inl rfl⟩
set_option maxRecDepth 50000 in
theorem wlX8_151 : Cond.methodLink RX8 151 yX2_memoryAt ∈ gw := (gw_of (List.mem_append_right _ (List.mem_append_right _ (List.mem_append_right _ (List.mem_append_left _ (List.mem_of_getElem? (i := 17) rfl))))) rfl)
set_option maxRecDepth 50000 in
theorem wlX8_162 : Cond.methodLink RX8 162 yX0_unlike ∈ gw := (gw_of (List.mem_append_right _ (List.mem_append_right _ (List.mem_append_right _ (List.mem_append_left _ (List.mem_of_getElem? (i := 33) rfl))))) rfl)
set_option maxRecDepth 50000 in
theorem wlX8_248 : Cond.methodLink RX8 248 yX8_builtAgain ∈ gw := (gw_of (List.mem_append_right _ (List.mem_append_right _ (List.mem_append_right _ (List.mem_append_left _ (List.mem_of_getElem? (i := 29) rfl))))) rfl)
set_option maxRecDepth 50000 in
theorem wlX8_154 : Cond.methodLink RX8 154 yX8_madeAgain ∈ gw := (gw_of (List.mem_append_right _ (List.mem_append_right _ (List.mem_append_right _ (List.mem_append_left _ (List.mem_of_getElem? (i := 25) rfl))))) rfl)
set_option maxRecDepth 50000 in
theorem wlX8_180 : Cond.methodLink RX8 180 yX8_hasBit ∈ gw := (gw_of (List.mem_append_right _ (List.mem_append_right _ (List.mem_append_right _ (List.mem_append_left _ (List.mem_of_getElem? (i := 48) rfl))))) rfl)
set_option maxRecDepth 50000 in
theorem wlX8_252 : Cond.methodLink RX8 252 yX8_isBuiltByOneOf ∈ gw := (gw_of (List.mem_append_right _ (List.mem_append_right _ (List.mem_append_right _ (List.mem_append_left _ (List.mem_of_getElem? (i := 45) rfl))))) rfl)
set_option maxRecDepth 50000 in
theorem wlX8_158 : Cond.methodLink RX8 158 yX8_staleBits ∈ gw := (gw_of (List.mem_append_right _ (List.mem_append_right _ (List.mem_append_right _ (List.mem_append_left _ (List.mem_of_getElem? (i := 41) rfl))))) rfl)
set_option maxRecDepth 50000 in
theorem faX8_53_X8 : FA RX8 53 7 8 := ⟨RX8, "LadderForge", TX8, 11, rfl, by decide, inwX8, Or.inl (gw_of (List.mem_append_right _ (List.mem_append_left _ (List.mem_of_getElem? (i := 179) rfl))) rfl), Or.inl rfl⟩
set_option maxRecDepth 50000 in
theorem wlX8_166 : Cond.methodLink RX8 166 yX8_goneRound ∈ gw := (gw_of (List.mem_append_right _ (List.mem_append_right _ (List.mem_append_right _ (List.mem_append_left _ (List.mem_of_getElem? (i := 59) rfl))))) rfl)
set_option maxRecDepth 50000 in
theorem fpX8_121_X7 : FP RX8 121 6 4 .boolean := ⟨RX7, "LadderForge$Tool", TX7, 5, tyX7, rfl, by decide, inwX7, Or.inr ⟨"LadderForge", (List.mem_of_getElem? (i := 27) rfl)⟩, Or.inl rfl, tyX7_ok, nmX7, rfl, by decide +kernel⟩
set_option maxRecDepth 50000 in
theorem wlX8_170 : Cond.methodLink RX8 170 yX8_chainLength ∈ gw := (gw_of (List.mem_append_right _ (List.mem_append_right _ (List.mem_append_right _ (List.mem_append_left _ (List.mem_of_getElem? (i := 75) rfl))))) rfl)
set_option maxRecDepth 50000 in
theorem wlX8_173 : Cond.methodLink RX8 173 yX8_chainAt ∈ gw := (gw_of (List.mem_append_right _ (List.mem_append_right _ (List.mem_append_right _ (List.mem_append_left _ (List.mem_of_getElem? (i := 79) rfl))))) rfl)
set_option maxRecDepth 50000 in
theorem wlX8_183 : Cond.methodLink RX8 183 yX8_chainEnd ∈ gw := (gw_of (List.mem_append_right _ (List.mem_append_right _ (List.mem_append_right _ (List.mem_append_left _ (List.mem_of_getElem? (i := 91) rfl))))) rfl)
set_option maxRecDepth 50000 in
theorem wlX8_176 : Cond.methodLink RX8 176 yX8_isSealed ∈ gw := (gw_of (List.mem_append_right _ (List.mem_append_right _ (List.mem_append_right _ (List.mem_append_left _ (List.mem_of_getElem? (i := 87) rfl))))) rfl)
set_option maxRecDepth 50000 in
theorem wnX8_186 : Cond.constant RX8 186 (65535) ∈ gw := (gw_of (List.mem_append_right _ (List.mem_append_right _ (List.mem_append_right _ (List.mem_append_left _ (List.mem_of_getElem? (i := 107) rfl))))) rfl)
set_option maxRecDepth 50000 in
theorem faX8_59_X8 : FA RX8 59 7 9 := ⟨RX8, "LadderForge", TX8, 11, rfl, by decide, inwX8, Or.inl (gw_of (List.mem_append_right _ (List.mem_append_left _ (List.mem_of_getElem? (i := 180) rfl))) rfl), Or.inl rfl⟩
set_option maxRecDepth 50000 in
theorem wlX8_187 : Cond.methodLink RX8 187 yX1_add ∈ gw := (gw_of (List.mem_append_right _ (List.mem_append_right _ (List.mem_append_right _ (List.mem_append_left _ (List.mem_of_getElem? (i := 108) rfl))))) rfl)
set_option maxRecDepth 50000 in
theorem wlX8_189 : Cond.methodLink RX8 189 yX1_has ∈ gw := (gw_of (List.mem_append_right _ (List.mem_append_right _ (List.mem_append_right _ (List.mem_append_left _ (List.mem_of_getElem? (i := 116) rfl))))) rfl)
set_option maxRecDepth 50000 in
theorem wlX8_193 : Cond.methodLink RX8 193 yX1_fewest ∈ gw := (gw_of (List.mem_append_right _ (List.mem_append_right _ (List.mem_append_right _ (List.mem_append_left _ (List.mem_of_getElem? (i := 120) rfl))))) rfl)
set_option maxRecDepth 50000 in
theorem wlX8_197 : Cond.methodLink RX8 197 yX1_step ∈ gw := (gw_of (List.mem_append_right _ (List.mem_append_right _ (List.mem_append_right _ (List.mem_append_left _ (List.mem_of_getElem? (i := 133) rfl))))) rfl)
set_option maxRecDepth 50000 in
theorem faX8_63_X8 : FA RX8 63 7 10 := ⟨RX8, "LadderForge", TX8, 11, rfl, by decide, inwX8, Or.inl (gw_of (List.mem_append_right _ (List.mem_append_left _ (List.mem_of_getElem? (i := 181) rfl))) rfl), Or.inl rfl⟩
set_option maxRecDepth 50000 in
theorem wnX8_256 : Cond.constantLong RX8 256 (10) ∈ gw := (gw_of (List.mem_append_right _ (List.mem_append_right _ (List.mem_append_right _ (List.mem_append_left _ (List.mem_of_getElem? (i := 153) rfl))))) rfl)
set_option maxRecDepth 50000 in
theorem wlX8_200 : Cond.methodLink RX8 200 yX8_asTool ∈ gw := (gw_of (List.mem_append_right _ (List.mem_append_right _ (List.mem_append_right _ (List.mem_append_left _ (List.mem_of_getElem? (i := 145) rfl))))) rfl)
set_option maxRecDepth 50000 in
theorem wnX8_258 : Cond.constantLong RX8 258 (100) ∈ gw := (gw_of (List.mem_append_right _ (List.mem_append_right _ (List.mem_append_right _ (List.mem_append_left _ (List.mem_of_getElem? (i := 158) rfl))))) rfl)
set_option maxRecDepth 50000 in
theorem wlX8_260 : Cond.methodLink RX8 260 yX0_beyondOrders ∈ gw := (gw_of (List.mem_append_right _ (List.mem_append_right _ (List.mem_append_right _ (List.mem_append_left _ (List.mem_of_getElem? (i := 159) rfl))))) rfl)
set_option maxRecDepth 50000 in
theorem wnX8_263 : Cond.constantLong RX8 263 (1000) ∈ gw := (gw_of (List.mem_append_right _ (List.mem_append_right _ (List.mem_append_right _ (List.mem_append_left _ (List.mem_of_getElem? (i := 167) rfl))))) rfl)
set_option maxRecDepth 50000 in
theorem wlX8_206 : Cond.methodLink RX8 206 yX8_asNamed ∈ gw := (gw_of (List.mem_append_right _ (List.mem_append_right _ (List.mem_append_right _ (List.mem_append_left _ (List.mem_of_getElem? (i := 154) rfl))))) rfl)
set_option maxRecDepth 50000 in
theorem wnX8_265 : Cond.constantLong RX8 265 (10000) ∈ gw := (gw_of (List.mem_append_right _ (List.mem_append_right _ (List.mem_append_right _ (List.mem_append_left _ (List.mem_of_getElem? (i := 172) rfl))))) rfl)
set_option maxRecDepth 50000 in
theorem wlX8_209 : Cond.methodLink RX8 209 yX8_asBuilt ∈ gw := (gw_of (List.mem_append_right _ (List.mem_append_right _ (List.mem_append_right _ (List.mem_append_left _ (List.mem_of_getElem? (i := 163) rfl))))) rfl)
set_option maxRecDepth 50000 in
theorem wnX8_267 : Cond.constantLong RX8 267 (100000) ∈ gw := (gw_of (List.mem_append_right _ (List.mem_append_right _ (List.mem_append_right _ (List.mem_append_left _ (List.mem_of_getElem? (i := 177) rfl))))) rfl)
set_option maxRecDepth 50000 in
theorem wlX8_203 : Cond.methodLink RX8 203 yX8_asPaired ∈ gw := (gw_of (List.mem_append_right _ (List.mem_append_right _ (List.mem_append_right _ (List.mem_append_left _ (List.mem_of_getElem? (i := 149) rfl))))) rfl)
set_option maxRecDepth 50000 in
theorem wlX8_213 : Cond.methodLink RX8 213 yX8_asSealed ∈ gw := (gw_of (List.mem_append_right _ (List.mem_append_right _ (List.mem_append_right _ (List.mem_append_left _ (List.mem_of_getElem? (i := 168) rfl))))) rfl)
set_option maxRecDepth 50000 in
theorem wlX8_216 : Cond.methodLink RX8 216 yX8_asDoubted ∈ gw := (gw_of (List.mem_append_right _ (List.mem_append_right _ (List.mem_append_right _ (List.mem_append_left _ (List.mem_of_getElem? (i := 173) rfl))))) rfl)
set_option maxRecDepth 50000 in
theorem faX8_219_X1 : FA RX8 219 1 3 := ⟨RX1, "LadderForge$Editions", TX1, 4, rfl, by decide, inwX1, Or.inr ⟨"LadderForge", (List.mem_of_getElem? (i := 21) rfl)⟩, Or.inl rfl⟩
set_option maxRecDepth 50000 in
theorem wlX8_222 : Cond.methodLink RX8 222 yX8_checkedTools ∈ gw := (gw_of (List.mem_append_right _ (List.mem_append_right _ (List.mem_append_right _ (List.mem_append_left _ (List.mem_of_getElem? (i := 182) rfl))))) rfl)
set_option maxRecDepth 50000 in
theorem wlX8_225 : Cond.methodLink RX8 225 yX8_sealedTools ∈ gw := (gw_of (List.mem_append_right _ (List.mem_append_right _ (List.mem_append_right _ (List.mem_append_left _ (List.mem_of_getElem? (i := 186) rfl))))) rfl)
set_option maxRecDepth 50000 in
theorem wlX9_1 : Cond.methodLink RX9 1 objectInit ∈ gw := (gw_of (List.mem_append_right _ (List.mem_append_right _ (List.mem_append_right _ (List.mem_append_left _ (List.mem_of_getElem? (i := 199) rfl))))) rfl)
set_option maxRecDepth 50000 in
theorem ffX9_7_X9 : FPF RX9 7 8 1 (.array .byte) := ⟨RX9, "LadderForgeModel", TX9, 39, tyX9, rfl, by decide, inwX9, (gw_of (List.mem_append_right _ (List.mem_append_right _ (List.mem_append_right _ (List.mem_append_left _ (List.mem_of_getElem? (i := 201) rfl))))) rfl), Or.inl rfl, tyX9_ok, nmX9, rfl, rfl, by decide +kernel⟩
set_option maxRecDepth 50000 in
theorem ffX9_13_X9 : FPF RX9 13 8 3 (.array .byte) := ⟨RX9, "LadderForgeModel", TX9, 39, tyX9, rfl, by decide, inwX9, (gw_of (List.mem_append_right _ (List.mem_append_right _ (List.mem_append_right _ (List.mem_append_left _ (List.mem_of_getElem? (i := 203) rfl))))) rfl), Or.inl rfl, tyX9_ok, nmX9, rfl, rfl, by decide +kernel⟩
set_option maxRecDepth 50000 in
theorem ffX9_16_X9 : FPF RX9 16 8 4 (.array .int) := ⟨RX9, "LadderForgeModel", TX9, 39, tyX9, rfl, by decide, inwX9, (gw_of (List.mem_append_right _ (List.mem_append_right _ (List.mem_append_right _ (List.mem_append_left _ (List.mem_of_getElem? (i := 204) rfl))))) rfl), Or.inl rfl, tyX9_ok, nmX9, rfl, rfl, by decide +kernel⟩
set_option maxRecDepth 50000 in
theorem ffX9_20_X9 : FPF RX9 20 8 6 (.array .int) := ⟨RX9, "LadderForgeModel", TX9, 39, tyX9, rfl, by decide, inwX9, (gw_of (List.mem_append_right _ (List.mem_append_right _ (List.mem_append_right _ (List.mem_append_left _ (List.mem_of_getElem? (i := 206) rfl))))) rfl), Or.inl rfl, tyX9_ok, nmX9, rfl, rfl, by decide +kernel⟩
set_option maxRecDepth 50000 in
theorem ffX9_23_X9 : FPF RX9 23 8 7 (.array .int) := ⟨RX9, "LadderForgeModel", TX9, 39, tyX9, rfl, by decide, inwX9, (gw_of (List.mem_append_right _ (List.mem_append_right _ (List.mem_append_right _ (List.mem_append_left _ (List.mem_of_getElem? (i := 207) rfl))))) rfl), Or.inl rfl, tyX9_ok, nmX9, rfl, rfl, by decide +kernel⟩
set_option maxRecDepth 50000 in
theorem ffX9_26_X9 : FPF RX9 26 8 8 (.array .int) := ⟨RX9, "LadderForgeModel", TX9, 39, tyX9, rfl, by decide, inwX9, (gw_of (List.mem_append_right _ (List.mem_append_right _ (List.mem_append_right _ (List.mem_append_left _ (List.mem_of_getElem? (i := 208) rfl))))) rfl), Or.inl rfl, tyX9_ok, nmX9, rfl, rfl, by decide +kernel⟩
set_option maxRecDepth 50000 in
theorem ffX9_29_X9 : FPF RX9 29 8 9 (.array .int) := ⟨RX9, "LadderForgeModel", TX9, 39, tyX9, rfl, by decide, inwX9, (gw_of (List.mem_append_right _ (List.mem_append_right _ (List.mem_append_right _ (List.mem_append_left _ (List.mem_of_getElem? (i := 209) rfl))))) rfl), Or.inl rfl, tyX9_ok, nmX9, rfl, rfl, by decide +kernel⟩
set_option maxRecDepth 50000 in
theorem ffX9_32_X9 : FPF RX9 32 8 10 (.array .int) := ⟨RX9, "LadderForgeModel", TX9, 39, tyX9, rfl, by decide, inwX9, (gw_of (List.mem_append_right _ (List.mem_append_right _ (List.mem_append_right _ (List.mem_append_left _ (List.mem_of_getElem? (i := 210) rfl))))) rfl), Or.inl rfl, tyX9_ok, nmX9, rfl, rfl, by decide +kernel⟩
set_option maxRecDepth 50000 in
theorem ffX9_35_X9 : FPF RX9 35 8 11 (.array .int) := ⟨RX9, "LadderForgeModel", TX9, 39, tyX9, rfl, by decide, inwX9, (gw_of (List.mem_append_right _ (List.mem_append_right _ (List.mem_append_right _ (List.mem_append_left _ (List.mem_of_getElem? (i := 211) rfl))))) rfl), Or.inl rfl, tyX9_ok, nmX9, rfl, rfl, by decide +kernel⟩
set_option maxRecDepth 50000 in
theorem ffX9_38_X9 : FPF RX9 38 8 12 (.array .int) := ⟨RX9, "LadderForgeModel", TX9, 39, tyX9, rfl, by decide, inwX9, (gw_of (List.mem_append_right _ (List.mem_append_right _ (List.mem_append_right _ (List.mem_append_left _ (List.mem_of_getElem? (i := 212) rfl))))) rfl), Or.inl rfl, tyX9_ok, nmX9, rfl, rfl, by decide +kernel⟩
set_option maxRecDepth 50000 in
theorem ffX9_41_X9 : FPF RX9 41 8 21 (.array .int) := ⟨RX9, "LadderForgeModel", TX9, 39, tyX9, rfl, by decide, inwX9, (gw_of (List.mem_append_right _ (List.mem_append_right _ (List.mem_append_right _ (List.mem_append_left _ (List.mem_of_getElem? (i := 221) rfl))))) rfl), Or.inl rfl, tyX9_ok, nmX9, rfl, rfl, by decide +kernel⟩
set_option maxRecDepth 50000 in
theorem ffX9_44_X9 : FPF RX9 44 8 22 (.array .int) := ⟨RX9, "LadderForgeModel", TX9, 39, tyX9, rfl, by decide, inwX9, (gw_of (List.mem_append_right _ (List.mem_append_right _ (List.mem_append_right _ (List.mem_append_left _ (List.mem_of_getElem? (i := 222) rfl))))) rfl), Or.inl rfl, tyX9_ok, nmX9, rfl, rfl, by decide +kernel⟩
set_option maxRecDepth 50000 in
theorem ffX9_47_X9 : FPF RX9 47 8 23 (.array .int) := ⟨RX9, "LadderForgeModel", TX9, 39, tyX9, rfl, by decide, inwX9, (gw_of (List.mem_append_right _ (List.mem_append_right _ (List.mem_append_right _ (List.mem_append_left _ (List.mem_of_getElem? (i := 223) rfl))))) rfl), Or.inl rfl, tyX9_ok, nmX9, rfl, rfl, by decide +kernel⟩
set_option maxRecDepth 50000 in
theorem ffX9_50_X9 : FPF RX9 50 8 24 (.array .int) := ⟨RX9, "LadderForgeModel", TX9, 39, tyX9, rfl, by decide, inwX9, (gw_of (List.mem_append_right _ (List.mem_append_right _ (List.mem_append_right _ (List.mem_append_left _ (List.mem_of_getElem? (i := 224) rfl))))) rfl), Or.inl rfl, tyX9_ok, nmX9, rfl, rfl, by decide +kernel⟩
set_option maxRecDepth 50000 in
theorem ffX9_53_X9 : FPF RX9 53 8 32 (.array .int) := ⟨RX9, "LadderForgeModel", TX9, 39, tyX9, rfl, by decide, inwX9, (gw_of (List.mem_append_right _ (List.mem_append_right _ (List.mem_append_right _ (List.mem_append_left _ (List.mem_of_getElem? (i := 232) rfl))))) rfl), Or.inl rfl, tyX9_ok, nmX9, rfl, rfl, by decide +kernel⟩
set_option maxRecDepth 50000 in
theorem ffX9_56_X9 : FPF RX9 56 8 33 (.array .int) := ⟨RX9, "LadderForgeModel", TX9, 39, tyX9, rfl, by decide, inwX9, (gw_of (List.mem_append_right _ (List.mem_append_right _ (List.mem_append_right _ (List.mem_append_left _ (List.mem_of_getElem? (i := 233) rfl))))) rfl), Or.inl rfl, tyX9_ok, nmX9, rfl, rfl, by decide +kernel⟩
set_option maxRecDepth 50000 in
theorem ffX9_59_X9 : FPF RX9 59 8 34 (.array .int) := ⟨RX9, "LadderForgeModel", TX9, 39, tyX9, rfl, by decide, inwX9, (gw_of (List.mem_append_right _ (List.mem_append_right _ (List.mem_append_right _ (List.mem_append_left _ (List.mem_of_getElem? (i := 234) rfl))))) rfl), Or.inl rfl, tyX9_ok, nmX9, rfl, rfl, by decide +kernel⟩
set_option maxRecDepth 50000 in
theorem ffX9_62_X9 : FPF RX9 62 8 36 (.array .int) := ⟨RX9, "LadderForgeModel", TX9, 39, tyX9, rfl, by decide, inwX9, (gw_of (List.mem_append_right _ (List.mem_append_right _ (List.mem_append_right _ (List.mem_append_left _ (List.mem_of_getElem? (i := 236) rfl))))) rfl), Or.inl rfl, tyX9_ok, nmX9, rfl, rfl, by decide +kernel⟩
set_option maxRecDepth 50000 in
theorem ffX9_65_X9 : FPF RX9 65 8 37 (.array .int) := ⟨RX9, "LadderForgeModel", TX9, 39, tyX9, rfl, by decide, inwX9, (gw_of (List.mem_append_right _ (List.mem_append_right _ (List.mem_append_right _ (List.mem_append_left _ (List.mem_of_getElem? (i := 237) rfl))))) rfl), Or.inl rfl, tyX9_ok, nmX9, rfl, rfl, by decide +kernel⟩
set_option maxRecDepth 50000 in
theorem ffX9_68_X9 : FPF RX9 68 8 38 (.array .int) := ⟨RX9, "LadderForgeModel", TX9, 39, tyX9, rfl, by decide, inwX9, (gw_of (List.mem_append_right _ (List.mem_append_right _ (List.mem_append_right _ (List.mem_append_left _ (List.mem_of_getElem? (i := 238) rfl))))) rfl), Or.inl rfl, tyX9_ok, nmX9, rfl, rfl, by decide +kernel⟩
set_option maxRecDepth 50000 in
theorem fpX9_71_X9 : FP RX9 71 8 2 .int := ⟨RX9, "LadderForgeModel", TX9, 39, tyX9, rfl, by decide, inwX9, Or.inl (gw_of (List.mem_append_right _ (List.mem_append_right _ (List.mem_append_right _ (List.mem_append_left _ (List.mem_of_getElem? (i := 202) rfl))))) rfl), Or.inl rfl, tyX9_ok, nmX9, rfl, by decide +kernel⟩
set_option maxRecDepth 50000 in
theorem wlX9_75 : Cond.methodLink RX9 75 yX9_in ∈ gw := (gw_of (List.mem_append_right _ (List.mem_append_right _ (List.mem_append_right _ (List.mem_append_right _ (List.mem_append_left _ (List.mem_of_getElem? (i := 82) rfl)))))) rfl)
set_option maxRecDepth 50000 in
theorem faX9_71_X9 : FA RX9 71 8 2 := ⟨RX9, "LadderForgeModel", TX9, 39, rfl, by decide, inwX9, Or.inl (gw_of (List.mem_append_right _ (List.mem_append_right _ (List.mem_append_right _ (List.mem_append_left _ (List.mem_of_getElem? (i := 202) rfl))))) rfl), Or.inl rfl⟩
set_option maxRecDepth 50000 in
theorem faX9_7_X9 : FA RX9 7 8 1 := ⟨RX9, "LadderForgeModel", TX9, 39, rfl, by decide, inwX9, Or.inl (gw_of (List.mem_append_right _ (List.mem_append_right _ (List.mem_append_right _ (List.mem_append_left _ (List.mem_of_getElem? (i := 201) rfl))))) rfl), Or.inl rfl⟩
set_option maxRecDepth 50000 in
theorem wnX9_79 : Cond.constantLong RX9 79 (255) ∈ gw := (gw_of (List.mem_append_right _ (List.mem_append_right _ (List.mem_append_right _ (List.mem_append_right _ (List.mem_append_left _ (List.mem_of_getElem? (i := 85) rfl)))))) rfl)
set_option maxRecDepth 50000 in
theorem wlX9_81 : Cond.methodLink RX9 81 yX9_isText ∈ gw := (gw_of (List.mem_append_right _ (List.mem_append_right _ (List.mem_append_right _ (List.mem_append_right _ (List.mem_append_left _ (List.mem_of_getElem? (i := 94) rfl)))))) rfl)
set_option maxRecDepth 50000 in
theorem faX9_13_X9 : FA RX9 13 8 3 := ⟨RX9, "LadderForgeModel", TX9, 39, rfl, by decide, inwX9, Or.inl (gw_of (List.mem_append_right _ (List.mem_append_right _ (List.mem_append_right _ (List.mem_append_left _ (List.mem_of_getElem? (i := 203) rfl))))) rfl), Or.inl rfl⟩
set_option maxRecDepth 50000 in
theorem faX9_16_X9 : FA RX9 16 8 4 := ⟨RX9, "LadderForgeModel", TX9, 39, rfl, by decide, inwX9, Or.inl (gw_of (List.mem_append_right _ (List.mem_append_right _ (List.mem_append_right _ (List.mem_append_left _ (List.mem_of_getElem? (i := 204) rfl))))) rfl), Or.inl rfl⟩
set_option maxRecDepth 50000 in
theorem faX9_85_X9 : FA RX9 85 8 5 := ⟨RX9, "LadderForgeModel", TX9, 39, rfl, by decide, inwX9, Or.inl (gw_of (List.mem_append_right _ (List.mem_append_right _ (List.mem_append_right _ (List.mem_append_left _ (List.mem_of_getElem? (i := 205) rfl))))) rfl), Or.inl rfl⟩
set_option maxRecDepth 50000 in
theorem faX9_20_X9 : FA RX9 20 8 6 := ⟨RX9, "LadderForgeModel", TX9, 39, rfl, by decide, inwX9, Or.inl (gw_of (List.mem_append_right _ (List.mem_append_right _ (List.mem_append_right _ (List.mem_append_left _ (List.mem_of_getElem? (i := 206) rfl))))) rfl), Or.inl rfl⟩
set_option maxRecDepth 50000 in
theorem faX9_26_X9 : FA RX9 26 8 8 := ⟨RX9, "LadderForgeModel", TX9, 39, rfl, by decide, inwX9, Or.inl (gw_of (List.mem_append_right _ (List.mem_append_right _ (List.mem_append_right _ (List.mem_append_left _ (List.mem_of_getElem? (i := 208) rfl))))) rfl), Or.inl rfl⟩
set_option maxRecDepth 50000 in
theorem faX9_23_X9 : FA RX9 23 8 7 := ⟨RX9, "LadderForgeModel", TX9, 39, rfl, by decide, inwX9, Or.inl (gw_of (List.mem_append_right _ (List.mem_append_right _ (List.mem_append_right _ (List.mem_append_left _ (List.mem_of_getElem? (i := 207) rfl))))) rfl), Or.inl rfl⟩
set_option maxRecDepth 50000 in
theorem faX9_88_X9 : FA RX9 88 8 15 := ⟨RX9, "LadderForgeModel", TX9, 39, rfl, by decide, inwX9, Or.inl (gw_of (List.mem_append_right _ (List.mem_append_right _ (List.mem_append_right _ (List.mem_append_left _ (List.mem_of_getElem? (i := 215) rfl))))) rfl), Or.inl rfl⟩
set_option maxRecDepth 50000 in
theorem faX9_91_X9 : FA RX9 91 8 14 := ⟨RX9, "LadderForgeModel", TX9, 39, rfl, by decide, inwX9, Or.inl (gw_of (List.mem_append_right _ (List.mem_append_right _ (List.mem_append_right _ (List.mem_append_left _ (List.mem_of_getElem? (i := 214) rfl))))) rfl), Or.inl rfl⟩
set_option maxRecDepth 50000 in
theorem faX9_94_X9 : FA RX9 94 8 13 := ⟨RX9, "LadderForgeModel", TX9, 39, rfl, by decide, inwX9, Or.inl (gw_of (List.mem_append_right _ (List.mem_append_right _ (List.mem_append_right _ (List.mem_append_left _ (List.mem_of_getElem? (i := 213) rfl))))) rfl), Or.inl rfl⟩
set_option maxRecDepth 50000 in
theorem fpX9_94_X9 : FP RX9 94 8 13 .int := ⟨RX9, "LadderForgeModel", TX9, 39, tyX9, rfl, by decide, inwX9, Or.inl (gw_of (List.mem_append_right _ (List.mem_append_right _ (List.mem_append_right _ (List.mem_append_left _ (List.mem_of_getElem? (i := 213) rfl))))) rfl), Or.inl rfl, tyX9_ok, nmX9, rfl, by decide +kernel⟩
set_option maxRecDepth 50000 in
theorem fpX9_91_X9 : FP RX9 91 8 14 .int := ⟨RX9, "LadderForgeModel", TX9, 39, tyX9, rfl, by decide, inwX9, Or.inl (gw_of (List.mem_append_right _ (List.mem_append_right _ (List.mem_append_right _ (List.mem_append_left _ (List.mem_of_getElem? (i := 214) rfl))))) rfl), Or.inl rfl, tyX9_ok, nmX9, rfl, by decide +kernel⟩
set_option maxRecDepth 50000 in
theorem fpX9_88_X9 : FP RX9 88 8 15 .int := ⟨RX9, "LadderForgeModel", TX9, 39, tyX9, rfl, by decide, inwX9, Or.inl (gw_of (List.mem_append_right _ (List.mem_append_right _ (List.mem_append_right _ (List.mem_append_left _ (List.mem_of_getElem? (i := 215) rfl))))) rfl), Or.inl rfl, tyX9_ok, nmX9, rfl, by decide +kernel⟩
set_option maxRecDepth 50000 in
theorem fpX9_97_X9 : FP RX9 97 8 16 .int := ⟨RX9, "LadderForgeModel", TX9, 39, tyX9, rfl, by decide, inwX9, Or.inl (gw_of (List.mem_append_right _ (List.mem_append_right _ (List.mem_append_right _ (List.mem_append_left _ (List.mem_of_getElem? (i := 216) rfl))))) rfl), Or.inl rfl, tyX9_ok, nmX9, rfl, by decide +kernel⟩
set_option maxRecDepth 50000 in
theorem wlX9_100 : Cond.methodLink RX9 100 yX9_here ∈ gw := (gw_of (List.mem_append_right _ (List.mem_append_right _ (List.mem_append_right _ (List.mem_append_right _ (List.mem_append_left _ (List.mem_of_getElem? (i := 121) rfl)))))) rfl)
set_option maxRecDepth 50000 in
theorem wlX9_104 : Cond.methodLink RX9 104 yX9_open ∈ gw := (gw_of (List.mem_append_right _ (List.mem_append_right _ (List.mem_append_right _ (List.mem_append_right _ (List.mem_append_left _ (List.mem_of_getElem? (i := 113) rfl)))))) rfl)
set_option maxRecDepth 50000 in
theorem wlX9_108 : Cond.methodLink RX9 108 yX9_pass ∈ gw := (gw_of (List.mem_append_right _ (List.mem_append_right _ (List.mem_append_right _ (List.mem_append_right _ (List.mem_append_left _ (List.mem_of_getElem? (i := 117) rfl)))))) rfl)
set_option maxRecDepth 50000 in
theorem wlX9_111 : Cond.methodLink RX9 111 yX9_digit ∈ gw := (gw_of (List.mem_append_right _ (List.mem_append_right _ (List.mem_append_right _ (List.mem_append_right _ (List.mem_append_left _ (List.mem_of_getElem? (i := 125) rfl)))))) rfl)
set_option maxRecDepth 50000 in
theorem wlX9_115 : Cond.methodLink RX9 115 yX9_add ∈ gw := (gw_of (List.mem_append_right _ (List.mem_append_right _ (List.mem_append_right _ (List.mem_append_right _ (List.mem_append_left _ (List.mem_of_getElem? (i := 128) rfl)))))) rfl)
set_option maxRecDepth 50000 in
theorem wnX9_119 : Cond.constantLong RX9 119 (27) ∈ gw := (gw_of (List.mem_append_right _ (List.mem_append_right _ (List.mem_append_right _ (List.mem_append_right _ (List.mem_append_left _ (List.mem_of_getElem? (i := 147) rfl)))))) rfl)
set_option maxRecDepth 50000 in
theorem wnX9_121 : Cond.constantLong RX9 121 (97) ∈ gw := (gw_of (List.mem_append_right _ (List.mem_append_right _ (List.mem_append_right _ (List.mem_append_right _ (List.mem_append_left _ (List.mem_of_getElem? (i := 148) rfl)))))) rfl)
set_option maxRecDepth 50000 in
theorem wlX9_123 : Cond.methodLink RX9 123 yX9_more ∈ gw := (gw_of (List.mem_append_right _ (List.mem_append_right _ (List.mem_append_right _ (List.mem_append_right _ (List.mem_append_left _ (List.mem_of_getElem? (i := 144) rfl)))))) rfl)
set_option maxRecDepth 50000 in
theorem wlX9_127 : Cond.methodLink RX9 127 yX9_spelled ∈ gw := (gw_of (List.mem_append_right _ (List.mem_append_right _ (List.mem_append_right _ (List.mem_append_right _ (List.mem_append_left _ (List.mem_of_getElem? (i := 149) rfl)))))) rfl)
set_option maxRecDepth 50000 in
theorem fpX9_131_X9 : FP RX9 131 8 20 .int := ⟨RX9, "LadderForgeModel", TX9, 39, tyX9, rfl, by decide, inwX9, Or.inl (gw_of (List.mem_append_right _ (List.mem_append_right _ (List.mem_append_right _ (List.mem_append_left _ (List.mem_of_getElem? (i := 220) rfl))))) rfl), Or.inl rfl, tyX9_ok, nmX9, rfl, by decide +kernel⟩
set_option maxRecDepth 50000 in
theorem fpX9_134_X9 : FP RX9 134 8 17 .int := ⟨RX9, "LadderForgeModel", TX9, 39, tyX9, rfl, by decide, inwX9, Or.inl (gw_of (List.mem_append_right _ (List.mem_append_right _ (List.mem_append_right _ (List.mem_append_left _ (List.mem_of_getElem? (i := 217) rfl))))) rfl), Or.inl rfl, tyX9_ok, nmX9, rfl, by decide +kernel⟩
set_option maxRecDepth 50000 in
theorem fpX9_137_X9 : FP RX9 137 8 19 .int := ⟨RX9, "LadderForgeModel", TX9, 39, tyX9, rfl, by decide, inwX9, Or.inl (gw_of (List.mem_append_right _ (List.mem_append_right _ (List.mem_append_right _ (List.mem_append_left _ (List.mem_of_getElem? (i := 219) rfl))))) rfl), Or.inl rfl, tyX9_ok, nmX9, rfl, by decide +kernel⟩
set_option maxRecDepth 50000 in
theorem fpX9_140_X9 : FP RX9 140 8 18 .int := ⟨RX9, "LadderForgeModel", TX9, 39, tyX9, rfl, by decide, inwX9, Or.inl (gw_of (List.mem_append_right _ (List.mem_append_right _ (List.mem_append_right _ (List.mem_append_left _ (List.mem_of_getElem? (i := 218) rfl))))) rfl), Or.inl rfl, tyX9_ok, nmX9, rfl, by decide +kernel⟩
set_option maxRecDepth 50000 in
theorem faX9_134_X9 : FA RX9 134 8 17 := ⟨RX9, "LadderForgeModel", TX9, 39, rfl, by decide, inwX9, Or.inl (gw_of (List.mem_append_right _ (List.mem_append_right _ (List.mem_append_right _ (List.mem_append_left _ (List.mem_of_getElem? (i := 217) rfl))))) rfl), Or.inl rfl⟩
set_option maxRecDepth 50000 in
theorem wlX9_143 : Cond.methodLink RX9 143 yX9_wordOf ∈ gw := (gw_of (List.mem_append_right _ (List.mem_append_right _ (List.mem_append_right _ (List.mem_append_right _ (List.mem_append_left _ (List.mem_of_getElem? (i := 140) rfl)))))) rfl)
set_option maxRecDepth 50000 in
theorem faX9_137_X9 : FA RX9 137 8 19 := ⟨RX9, "LadderForgeModel", TX9, 39, rfl, by decide, inwX9, Or.inl (gw_of (List.mem_append_right _ (List.mem_append_right _ (List.mem_append_right _ (List.mem_append_left _ (List.mem_of_getElem? (i := 219) rfl))))) rfl), Or.inl rfl⟩
set_option maxRecDepth 50000 in
theorem faX9_97_X9 : FA RX9 97 8 16 := ⟨RX9, "LadderForgeModel", TX9, 39, rfl, by decide, inwX9, Or.inl (gw_of (List.mem_append_right _ (List.mem_append_right _ (List.mem_append_right _ (List.mem_append_left _ (List.mem_of_getElem? (i := 216) rfl))))) rfl), Or.inl rfl⟩
set_option maxRecDepth 50000 in
theorem wlX9_147 : Cond.methodLink RX9 147 yX9_next ∈ gw := (gw_of (List.mem_append_right _ (List.mem_append_right _ (List.mem_append_right _ (List.mem_append_right _ (List.mem_append_left _ (List.mem_of_getElem? (i := 136) rfl)))))) rfl)
set_option maxRecDepth 50000 in
theorem faX9_41_X9 : FA RX9 41 8 21 := ⟨RX9, "LadderForgeModel", TX9, 39, rfl, by decide, inwX9, Or.inl (gw_of (List.mem_append_right _ (List.mem_append_right _ (List.mem_append_right _ (List.mem_append_left _ (List.mem_of_getElem? (i := 221) rfl))))) rfl), Or.inl rfl⟩
set_option maxRecDepth 50000 in
theorem faX9_140_X9 : FA RX9 140 8 18 := ⟨RX9, "LadderForgeModel", TX9, 39, rfl, by decide, inwX9, Or.inl (gw_of (List.mem_append_right _ (List.mem_append_right _ (List.mem_append_right _ (List.mem_append_left _ (List.mem_of_getElem? (i := 218) rfl))))) rfl), Or.inl rfl⟩
set_option maxRecDepth 50000 in
theorem wlX9_150 : Cond.methodLink RX9 150 yX9_due ∈ gw := (gw_of (List.mem_append_right _ (List.mem_append_right _ (List.mem_append_right _ (List.mem_append_right _ (List.mem_append_left _ (List.mem_of_getElem? (i := 152) rfl)))))) rfl)
set_option maxRecDepth 50000 in
theorem faX9_131_X9 : FA RX9 131 8 20 := ⟨RX9, "LadderForgeModel", TX9, 39, rfl, by decide, inwX9, Or.inl (gw_of (List.mem_append_right _ (List.mem_append_right _ (List.mem_append_right _ (List.mem_append_left _ (List.mem_of_getElem? (i := 220) rfl))))) rfl), Or.inl rfl⟩
set_option maxRecDepth 50000 in
theorem wlX9_154 : Cond.methodLink RX9 154 yX9_hasNumber ∈ gw := (gw_of (List.mem_append_right _ (List.mem_append_right _ (List.mem_append_right _ (List.mem_append_right _ (List.mem_append_left _ (List.mem_of_getElem? (i := 156) rfl)))))) rfl)
set_option maxRecDepth 50000 in
theorem faX9_29_X9 : FA RX9 29 8 9 := ⟨RX9, "LadderForgeModel", TX9, 39, rfl, by decide, inwX9, Or.inl (gw_of (List.mem_append_right _ (List.mem_append_right _ (List.mem_append_right _ (List.mem_append_left _ (List.mem_of_getElem? (i := 209) rfl))))) rfl), Or.inl rfl⟩
set_option maxRecDepth 50000 in
theorem faX9_32_X9 : FA RX9 32 8 10 := ⟨RX9, "LadderForgeModel", TX9, 39, rfl, by decide, inwX9, Or.inl (gw_of (List.mem_append_right _ (List.mem_append_right _ (List.mem_append_right _ (List.mem_append_left _ (List.mem_of_getElem? (i := 210) rfl))))) rfl), Or.inl rfl⟩
set_option maxRecDepth 50000 in
theorem faX9_35_X9 : FA RX9 35 8 11 := ⟨RX9, "LadderForgeModel", TX9, 39, rfl, by decide, inwX9, Or.inl (gw_of (List.mem_append_right _ (List.mem_append_right _ (List.mem_append_right _ (List.mem_append_left _ (List.mem_of_getElem? (i := 211) rfl))))) rfl), Or.inl rfl⟩
set_option maxRecDepth 50000 in
theorem faX9_38_X9 : FA RX9 38 8 12 := ⟨RX9, "LadderForgeModel", TX9, 39, rfl, by decide, inwX9, Or.inl (gw_of (List.mem_append_right _ (List.mem_append_right _ (List.mem_append_right _ (List.mem_append_left _ (List.mem_of_getElem? (i := 212) rfl))))) rfl), Or.inl rfl⟩
set_option maxRecDepth 50000 in
theorem fpX9_85_X9 : FP RX9 85 8 5 .int := ⟨RX9, "LadderForgeModel", TX9, 39, tyX9, rfl, by decide, inwX9, Or.inl (gw_of (List.mem_append_right _ (List.mem_append_right _ (List.mem_append_right _ (List.mem_append_left _ (List.mem_of_getElem? (i := 205) rfl))))) rfl), Or.inl rfl, tyX9_ok, nmX9, rfl, by decide +kernel⟩
set_option maxRecDepth 50000 in
theorem wlX9_157 : Cond.methodLink RX9 157 yX9_copy ∈ gw := (gw_of (List.mem_append_right _ (List.mem_append_right _ (List.mem_append_right _ (List.mem_append_right _ (List.mem_append_left _ (List.mem_of_getElem? (i := 163) rfl)))))) rfl)
set_option maxRecDepth 50000 in
theorem wlX9_161 : Cond.methodLink RX9 161 yX9_readPairs ∈ gw := (gw_of (List.mem_append_right _ (List.mem_append_right _ (List.mem_append_right _ (List.mem_append_right _ (List.mem_append_left _ (List.mem_of_getElem? (i := 109) rfl)))))) rfl)
set_option maxRecDepth 50000 in
theorem wlX9_164 : Cond.methodLink RX9 164 yX9_readNames ∈ gw := (gw_of (List.mem_append_right _ (List.mem_append_right _ (List.mem_append_right _ (List.mem_append_right _ (List.mem_append_left _ (List.mem_of_getElem? (i := 132) rfl)))))) rfl)
set_option maxRecDepth 50000 in
theorem wlX9_167 : Cond.methodLink RX9 167 yX9_move ∈ gw := (gw_of (List.mem_append_right _ (List.mem_append_right _ (List.mem_append_right _ (List.mem_append_right _ (List.mem_append_left _ (List.mem_of_getElem? (i := 159) rfl)))))) rfl)
set_option maxRecDepth 50000 in
theorem wlX9_171 : Cond.methodLink RX9 171 yX9_newTool ∈ gw := (gw_of (List.mem_append_right _ (List.mem_append_right _ (List.mem_append_right _ (List.mem_append_right _ (List.mem_append_left _ (List.mem_of_getElem? (i := 166) rfl)))))) rfl)
set_option maxRecDepth 50000 in
theorem wlX9_175 : Cond.methodLink RX9 175 yX9_make ∈ gw := (gw_of (List.mem_append_right _ (List.mem_append_right _ (List.mem_append_right _ (List.mem_append_right _ (List.mem_append_left _ (List.mem_of_getElem? (i := 105) rfl)))))) rfl)
set_option maxRecDepth 50000 in
theorem wlX9_178 : Cond.methodLink RX9 178 yX9_isTool ∈ gw := (gw_of (List.mem_append_right _ (List.mem_append_right _ (List.mem_append_right _ (List.mem_append_right _ (List.mem_append_left _ (List.mem_of_getElem? (i := 178) rfl)))))) rfl)
set_option maxRecDepth 50000 in
theorem faX9_44_X9 : FA RX9 44 8 22 := ⟨RX9, "LadderForgeModel", TX9, 39, rfl, by decide, inwX9, Or.inl (gw_of (List.mem_append_right _ (List.mem_append_right _ (List.mem_append_right _ (List.mem_append_left _ (List.mem_of_getElem? (i := 222) rfl))))) rfl), Or.inl rfl⟩
set_option maxRecDepth 50000 in
theorem faX9_181_X9 : FA RX9 181 8 28 := ⟨RX9, "LadderForgeModel", TX9, 39, rfl, by decide, inwX9, Or.inl (gw_of (List.mem_append_right _ (List.mem_append_right _ (List.mem_append_right _ (List.mem_append_left _ (List.mem_of_getElem? (i := 228) rfl))))) rfl), Or.inl rfl⟩
set_option maxRecDepth 50000 in
theorem faX9_184_X9 : FA RX9 184 8 25 := ⟨RX9, "LadderForgeModel", TX9, 39, rfl, by decide, inwX9, Or.inl (gw_of (List.mem_append_right _ (List.mem_append_right _ (List.mem_append_right _ (List.mem_append_left _ (List.mem_of_getElem? (i := 225) rfl))))) rfl), Or.inl rfl⟩
set_option maxRecDepth 50000 in
theorem fpX9_181_X9 : FP RX9 181 8 28 .int := ⟨RX9, "LadderForgeModel", TX9, 39, tyX9, rfl, by decide, inwX9, Or.inl (gw_of (List.mem_append_right _ (List.mem_append_right _ (List.mem_append_right _ (List.mem_append_left _ (List.mem_of_getElem? (i := 228) rfl))))) rfl), Or.inl rfl, tyX9_ok, nmX9, rfl, by decide +kernel⟩
set_option maxRecDepth 50000 in
theorem faX9_187_X9 : FA RX9 187 8 29 := ⟨RX9, "LadderForgeModel", TX9, 39, rfl, by decide, inwX9, Or.inl (gw_of (List.mem_append_right _ (List.mem_append_right _ (List.mem_append_right _ (List.mem_append_left _ (List.mem_of_getElem? (i := 229) rfl))))) rfl), Or.inl rfl⟩
set_option maxRecDepth 50000 in
theorem fpX9_187_X9 : FP RX9 187 8 29 .int := ⟨RX9, "LadderForgeModel", TX9, 39, tyX9, rfl, by decide, inwX9, Or.inl (gw_of (List.mem_append_right _ (List.mem_append_right _ (List.mem_append_right _ (List.mem_append_left _ (List.mem_of_getElem? (i := 229) rfl))))) rfl), Or.inl rfl, tyX9_ok, nmX9, rfl, by decide +kernel⟩
set_option maxRecDepth 50000 in
theorem faX9_190_X9 : FA RX9 190 8 30 := ⟨RX9, "LadderForgeModel", TX9, 39, rfl, by decide, inwX9, Or.inl (gw_of (List.mem_append_right _ (List.mem_append_right _ (List.mem_append_right _ (List.mem_append_left _ (List.mem_of_getElem? (i := 230) rfl))))) rfl), Or.inl rfl⟩
set_option maxRecDepth 50000 in
theorem fpX9_193_X9 : FP RX9 193 8 26 .int := ⟨RX9, "LadderForgeModel", TX9, 39, tyX9, rfl, by decide, inwX9, Or.inl (gw_of (List.mem_append_right _ (List.mem_append_right _ (List.mem_append_right _ (List.mem_append_left _ (List.mem_of_getElem? (i := 226) rfl))))) rfl), Or.inl rfl, tyX9_ok, nmX9, rfl, by decide +kernel⟩
set_option maxRecDepth 50000 in
theorem fpX9_190_X9 : FP RX9 190 8 30 .int := ⟨RX9, "LadderForgeModel", TX9, 39, tyX9, rfl, by decide, inwX9, Or.inl (gw_of (List.mem_append_right _ (List.mem_append_right _ (List.mem_append_right _ (List.mem_append_left _ (List.mem_of_getElem? (i := 230) rfl))))) rfl), Or.inl rfl, tyX9_ok, nmX9, rfl, by decide +kernel⟩
set_option maxRecDepth 50000 in
theorem faX9_196_X9 : FA RX9 196 8 31 := ⟨RX9, "LadderForgeModel", TX9, 39, rfl, by decide, inwX9, Or.inl (gw_of (List.mem_append_right _ (List.mem_append_right _ (List.mem_append_right _ (List.mem_append_left _ (List.mem_of_getElem? (i := 231) rfl))))) rfl), Or.inl rfl⟩
set_option maxRecDepth 50000 in
theorem fpX9_196_X9 : FP RX9 196 8 31 .int := ⟨RX9, "LadderForgeModel", TX9, 39, tyX9, rfl, by decide, inwX9, Or.inl (gw_of (List.mem_append_right _ (List.mem_append_right _ (List.mem_append_right _ (List.mem_append_left _ (List.mem_of_getElem? (i := 231) rfl))))) rfl), Or.inl rfl, tyX9_ok, nmX9, rfl, by decide +kernel⟩
set_option maxRecDepth 50000 in
theorem faX9_47_X9 : FA RX9 47 8 23 := ⟨RX9, "LadderForgeModel", TX9, 39, rfl, by decide, inwX9, Or.inl (gw_of (List.mem_append_right _ (List.mem_append_right _ (List.mem_append_right _ (List.mem_append_left _ (List.mem_of_getElem? (i := 223) rfl))))) rfl), Or.inl rfl⟩
set_option maxRecDepth 50000 in
theorem faX9_193_X9 : FA RX9 193 8 26 := ⟨RX9, "LadderForgeModel", TX9, 39, rfl, by decide, inwX9, Or.inl (gw_of (List.mem_append_right _ (List.mem_append_right _ (List.mem_append_right _ (List.mem_append_left _ (List.mem_of_getElem? (i := 226) rfl))))) rfl), Or.inl rfl⟩
set_option maxRecDepth 50000 in
theorem faX9_50_X9 : FA RX9 50 8 24 := ⟨RX9, "LadderForgeModel", TX9, 39, rfl, by decide, inwX9, Or.inl (gw_of (List.mem_append_right _ (List.mem_append_right _ (List.mem_append_right _ (List.mem_append_left _ (List.mem_of_getElem? (i := 224) rfl))))) rfl), Or.inl rfl⟩
set_option maxRecDepth 50000 in
theorem fpX9_184_X9 : FP RX9 184 8 25 .int := ⟨RX9, "LadderForgeModel", TX9, 39, tyX9, rfl, by decide, inwX9, Or.inl (gw_of (List.mem_append_right _ (List.mem_append_right _ (List.mem_append_right _ (List.mem_append_left _ (List.mem_of_getElem? (i := 225) rfl))))) rfl), Or.inl rfl, tyX9_ok, nmX9, rfl, by decide +kernel⟩
set_option maxRecDepth 50000 in
theorem faX9_199_X9 : FA RX9 199 8 27 := ⟨RX9, "LadderForgeModel", TX9, 39, rfl, by decide, inwX9, Or.inl (gw_of (List.mem_append_right _ (List.mem_append_right _ (List.mem_append_right _ (List.mem_append_left _ (List.mem_of_getElem? (i := 227) rfl))))) rfl), Or.inl rfl⟩
set_option maxRecDepth 50000 in
theorem fpX9_199_X9 : FP RX9 199 8 27 .int := ⟨RX9, "LadderForgeModel", TX9, 39, tyX9, rfl, by decide, inwX9, Or.inl (gw_of (List.mem_append_right _ (List.mem_append_right _ (List.mem_append_right _ (List.mem_append_left _ (List.mem_of_getElem? (i := 227) rfl))))) rfl), Or.inl rfl, tyX9_ok, nmX9, rfl, by decide +kernel⟩
set_option maxRecDepth 50000 in
theorem wlX9_202 : Cond.methodLink RX9 202 yX9_step ∈ gw := (gw_of (List.mem_append_right _ (List.mem_append_right _ (List.mem_append_right _ (List.mem_append_right _ (List.mem_append_left _ (List.mem_of_getElem? (i := 194) rfl)))))) rfl)
set_option maxRecDepth 50000 in
theorem wlX9_205 : Cond.methodLink RX9 205 yX9_go ∈ gw := (gw_of (List.mem_append_right _ (List.mem_append_right _ (List.mem_append_right _ (List.mem_append_right _ (List.mem_append_left _ (List.mem_of_getElem? (i := 190) rfl)))))) rfl)
set_option maxRecDepth 50000 in
theorem wlX9_208 : Cond.methodLink RX9 208 yX9_take ∈ gw := (gw_of (List.mem_append_right _ (List.mem_append_right _ (List.mem_append_right _ (List.mem_append_right _ (List.mem_append_left _ (List.mem_of_getElem? (i := 214) rfl)))))) rfl)
set_option maxRecDepth 50000 in
theorem faX9_53_X9 : FA RX9 53 8 32 := ⟨RX9, "LadderForgeModel", TX9, 39, rfl, by decide, inwX9, Or.inl (gw_of (List.mem_append_right _ (List.mem_append_right _ (List.mem_append_right _ (List.mem_append_left _ (List.mem_of_getElem? (i := 232) rfl))))) rfl), Or.inl rfl⟩
set_option maxRecDepth 50000 in
theorem faX9_56_X9 : FA RX9 56 8 33 := ⟨RX9, "LadderForgeModel", TX9, 39, rfl, by decide, inwX9, Or.inl (gw_of (List.mem_append_right _ (List.mem_append_right _ (List.mem_append_right _ (List.mem_append_left _ (List.mem_of_getElem? (i := 233) rfl))))) rfl), Or.inl rfl⟩
set_option maxRecDepth 50000 in
theorem faX9_59_X9 : FA RX9 59 8 34 := ⟨RX9, "LadderForgeModel", TX9, 39, rfl, by decide, inwX9, Or.inl (gw_of (List.mem_append_right _ (List.mem_append_right _ (List.mem_append_right _ (List.mem_append_left _ (List.mem_of_getElem? (i := 234) rfl))))) rfl), Or.inl rfl⟩
set_option maxRecDepth 50000 in
theorem wlX9_211 : Cond.methodLink RX9 211 yX9_builds ∈ gw := (gw_of (List.mem_append_right _ (List.mem_append_right _ (List.mem_append_right _ (List.mem_append_right _ (List.mem_append_left _ (List.mem_of_getElem? (i := 210) rfl)))))) rfl)
set_option maxRecDepth 50000 in
theorem wlX9_214 : Cond.methodLink RX9 214 yX9_unlike ∈ gw := (gw_of (List.mem_append_right _ (List.mem_append_right _ (List.mem_append_right _ (List.mem_append_right _ (List.mem_append_left _ (List.mem_of_getElem? (i := 226) rfl)))))) rfl)
set_option maxRecDepth 50000 in
theorem wlX9_217 : Cond.methodLink RX9 217 yX9_again ∈ gw := (gw_of (List.mem_append_right _ (List.mem_append_right _ (List.mem_append_right _ (List.mem_append_right _ (List.mem_append_left _ (List.mem_of_getElem? (i := 222) rfl)))))) rfl)
set_option maxRecDepth 50000 in
theorem wlX9_220 : Cond.methodLink RX9 220 yX9_goRound ∈ gw := (gw_of (List.mem_append_right _ (List.mem_append_right _ (List.mem_append_right _ (List.mem_append_right _ (List.mem_append_right _ (List.mem_of_getElem? (i := 2) rfl)))))) rfl)
set_option maxRecDepth 50000 in
theorem wlX9_223 : Cond.methodLink RX9 223 yX9_lengthOf ∈ gw := (gw_of (List.mem_append_right _ (List.mem_append_right _ (List.mem_append_right _ (List.mem_append_right _ (List.mem_append_right _ (List.mem_of_getElem? (i := 18) rfl)))))) rfl)
set_option maxRecDepth 50000 in
theorem wlX9_226 : Cond.methodLink RX9 226 yX9_stale ∈ gw := (gw_of (List.mem_append_right _ (List.mem_append_right _ (List.mem_append_right _ (List.mem_append_right _ (List.mem_append_right _ (List.mem_of_getElem? (i := 30) rfl)))))) rfl)
set_option maxRecDepth 50000 in
theorem wlX9_229 : Cond.methodLink RX9 229 yX9_last ∈ gw := (gw_of (List.mem_append_right _ (List.mem_append_right _ (List.mem_append_right _ (List.mem_append_right _ (List.mem_append_right _ (List.mem_of_getElem? (i := 31) rfl)))))) rfl)
set_option maxRecDepth 50000 in
theorem wlX9_232 : Cond.methodLink RX9 232 yX9_sealedOnes ∈ gw := (gw_of (List.mem_append_right _ (List.mem_append_right _ (List.mem_append_right _ (List.mem_append_right _ (List.mem_append_right _ (List.mem_of_getElem? (i := 26) rfl)))))) rfl)
set_option maxRecDepth 50000 in
theorem wnX9_235 : Cond.constant RX9 235 (65535) ∈ gw := (gw_of (List.mem_append_right _ (List.mem_append_right _ (List.mem_append_right _ (List.mem_append_right _ (List.mem_append_right _ (List.mem_of_getElem? (i := 47) rfl)))))) rfl)
set_option maxRecDepth 50000 in
theorem faX9_236_X9 : FA RX9 236 8 35 := ⟨RX9, "LadderForgeModel", TX9, 39, rfl, by decide, inwX9, Or.inl (gw_of (List.mem_append_right _ (List.mem_append_right _ (List.mem_append_right _ (List.mem_append_left _ (List.mem_of_getElem? (i := 235) rfl))))) rfl), Or.inl rfl⟩
set_option maxRecDepth 50000 in
theorem faX9_62_X9 : FA RX9 62 8 36 := ⟨RX9, "LadderForgeModel", TX9, 39, rfl, by decide, inwX9, Or.inl (gw_of (List.mem_append_right _ (List.mem_append_right _ (List.mem_append_right _ (List.mem_append_left _ (List.mem_of_getElem? (i := 236) rfl))))) rfl), Or.inl rfl⟩
set_option maxRecDepth 50000 in
theorem faX9_65_X9 : FA RX9 65 8 37 := ⟨RX9, "LadderForgeModel", TX9, 39, rfl, by decide, inwX9, Or.inl (gw_of (List.mem_append_right _ (List.mem_append_right _ (List.mem_append_right _ (List.mem_append_left _ (List.mem_of_getElem? (i := 237) rfl))))) rfl), Or.inl rfl⟩
set_option maxRecDepth 50000 in
theorem fpX9_236_X9 : FP RX9 236 8 35 .int := ⟨RX9, "LadderForgeModel", TX9, 39, tyX9, rfl, by decide, inwX9, Or.inl (gw_of (List.mem_append_right _ (List.mem_append_right _ (List.mem_append_right _ (List.mem_append_left _ (List.mem_of_getElem? (i := 235) rfl))))) rfl), Or.inl rfl, tyX9_ok, nmX9, rfl, by decide +kernel⟩
set_option maxRecDepth 50000 in
theorem faX9_68_X9 : FA RX9 68 8 38 := ⟨RX9, "LadderForgeModel", TX9, 39, rfl, by decide, inwX9, Or.inl (gw_of (List.mem_append_right _ (List.mem_append_right _ (List.mem_append_right _ (List.mem_append_left _ (List.mem_of_getElem? (i := 238) rfl))))) rfl), Or.inl rfl⟩
set_option maxRecDepth 50000 in
theorem wlX9_239 : Cond.methodLink RX9 239 yX9_isEdition ∈ gw := (gw_of (List.mem_append_right _ (List.mem_append_right _ (List.mem_append_right _ (List.mem_append_right _ (List.mem_append_right _ (List.mem_of_getElem? (i := 52) rfl)))))) rfl)
set_option maxRecDepth 50000 in
theorem wlX9_242 : Cond.methodLink RX9 242 yX9_climb ∈ gw := (gw_of (List.mem_append_right _ (List.mem_append_right _ (List.mem_append_right _ (List.mem_append_right _ (List.mem_append_right _ (List.mem_of_getElem? (i := 56) rfl)))))) rfl)
set_option maxRecDepth 50000 in
theorem faX9_245_X9 : FA RX9 245 8 0 := ⟨RX9, "LadderForgeModel", TX9, 39, rfl, by decide, inwX9, Or.inl (gw_of (List.mem_append_right _ (List.mem_append_right _ (List.mem_append_right _ (List.mem_append_left _ (List.mem_of_getElem? (i := 200) rfl))))) rfl), Or.inl rfl⟩
set_option maxRecDepth 50000 in
theorem wnX9_249 : Cond.constantLong RX9 249 (11) ∈ gw := (gw_of (List.mem_append_right _ (List.mem_append_right _ (List.mem_append_right _ (List.mem_append_right _ (List.mem_append_right _ (List.mem_of_getElem? (i := 68) rfl)))))) rfl)
set_option maxRecDepth 50000 in
theorem wnX9_251 : Cond.constantLong RX9 251 (101) ∈ gw := (gw_of (List.mem_append_right _ (List.mem_append_right _ (List.mem_append_right _ (List.mem_append_right _ (List.mem_append_right _ (List.mem_of_getElem? (i := 69) rfl)))))) rfl)
set_option maxRecDepth 50000 in
theorem wnX9_253 : Cond.constantLong RX9 253 (1101) ∈ gw := (gw_of (List.mem_append_right _ (List.mem_append_right _ (List.mem_append_right _ (List.mem_append_right _ (List.mem_append_right _ (List.mem_of_getElem? (i := 70) rfl)))))) rfl)
set_option maxRecDepth 50000 in
theorem wnX9_255 : Cond.constantLong RX9 255 (11101) ∈ gw := (gw_of (List.mem_append_right _ (List.mem_append_right _ (List.mem_append_right _ (List.mem_append_right _ (List.mem_append_right _ (List.mem_of_getElem? (i := 71) rfl)))))) rfl)
set_option maxRecDepth 50000 in
theorem wnX9_257 : Cond.constantLong RX9 257 (100001) ∈ gw := (gw_of (List.mem_append_right _ (List.mem_append_right _ (List.mem_append_right _ (List.mem_append_right _ (List.mem_append_right _ (List.mem_of_getElem? (i := 72) rfl)))))) rfl)
set_option maxRecDepth 50000 in
theorem fpX9_245_X9 : FP RX9 245 8 0 .long := ⟨RX9, "LadderForgeModel", TX9, 39, tyX9, rfl, by decide, inwX9, Or.inl (gw_of (List.mem_append_right _ (List.mem_append_right _ (List.mem_append_right _ (List.mem_append_left _ (List.mem_of_getElem? (i := 200) rfl))))) rfl), Or.inl rfl, tyX9_ok, nmX9, rfl, by decide +kernel⟩
set_option maxRecDepth 50000 in
theorem wObj1 : Cond.instanceMethod objectInit ∈ gw := (gw_of (List.mem_append_right _ (List.mem_append_left _ (List.mem_of_getElem? (i := 22) rfl))) rfl)
set_option maxRecDepth 50000 in
theorem wObj2 : Cond.code objectInit ⟨#[0xb1]⟩ 1 none ∈ gw := (gw_of (List.mem_append_right _ (List.mem_append_left _ (List.mem_of_getElem? (i := 23) rfl))) rfl)
set_option maxRecDepth 50000 in
theorem wmin1 : Cond.static Lib.Math.min.name ∈ gw := (gw_of (List.mem_append_right _ (List.mem_append_left _ (List.mem_of_getElem? (i := 60) rfl))) rfl)
set_option maxRecDepth 50000 in
theorem wmin2 : Cond.code Lib.Math.min.name Lib.Math.min.code 2 (some .int) ∈ gw := (gw_of (List.mem_append_right _ (List.mem_append_left _ (List.mem_of_getElem? (i := 61) rfl))) rfl)
set_option maxRecDepth 50000 in
theorem wmax1 : Cond.static Lib.Math.max.name ∈ gw := (gw_of (List.mem_append_right _ (List.mem_append_right _ (List.mem_append_left _ (List.mem_of_getElem? (i := 231) rfl)))) rfl)
set_option maxRecDepth 50000 in
theorem wmax2 : Cond.code Lib.Math.max.name Lib.Math.max.code 2 (some .int) ∈ gw := (gw_of (List.mem_append_right _ (List.mem_append_right _ (List.mem_append_left _ (List.mem_of_getElem? (i := 232) rfl)))) rfl)
set_option maxRecDepth 50000 in
theorem wMath : Cond.initialized "java/lang/Math" ∈ gw := (gw_of (List.mem_append_right _ (List.mem_append_left _ (List.mem_of_getElem? (i := 6) rfl))) rfl)
set_option maxRecDepth 50000 in
theorem wArrI : Cond.arrayClass (newarray.typeOf .int) ∈ gw := (gw_of (List.mem_append_right _ (List.mem_append_left _ (List.mem_of_getElem? (i := 40) rfl))) rfl)
set_option maxRecDepth 50000 in
theorem wArrB : Cond.arrayClass (newarray.typeOf .byte) ∈ gw := (gw_of (List.mem_append_right _ (List.mem_append_right _ (List.mem_append_left _ (List.mem_of_getElem? (i := 190) rfl)))) rfl)
