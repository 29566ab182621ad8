set_option maxRecDepth 20000 in
theorem nkw_in : ∀ w ∈ nkw, w ∈ lw_tbl := by decide +kernel
set_option maxRecDepth 20000 in
theorem xstr_in : ∀ q ∈ xstrs, Cond.stringRef RX7 q.1 q.2 ∈ lw_tbl := by decide +kernel
set_option maxRecDepth 20000 in
theorem xcls_in : ∀ q ∈ xcls, Cond.castable q q ∈ lw_tbl := by decide +kernel
set_option maxRecDepth 20000 in
theorem xsup_in : ∀ q ∈ xsup, Cond.declares (Bundle.initS q) ∈ lw_tbl := by decide +kernel
set_option maxRecDepth 20000 in
theorem xncl_in : ∀ q ∈ xncl, Cond.not (.castable q.1 q.2) ∈ flatC (Jvm.Cond.and given_1 narrow_1) := by decide +kernel
set_option maxRecDepth 20000 in
theorem un_in : Cond.isRef (.static Bundle.tN "UNASSIGNED_STACK" Bundle.steD) ∈ flatC (Jvm.Cond.and given_1 narrow_1) ∧ Cond.isRef (.static Bundle.tN "SUPPRESSED_SENTINEL" Bundle.listD) ∈ flatC (Jvm.Cond.and given_1 narrow_1) := by decide +kernel
set_option maxRecDepth 20000 in
theorem lay_in : Cond.laysStatic Bundle.tN "UNASSIGNED_STACK" Bundle.steD ∈ lw_tbl ∧ Cond.laysStatic Bundle.tN "SUPPRESSED_SENTINEL" Bundle.listD ∈ lw_tbl ∧ Cond.initialized Bundle.tN ∈ lw_tbl := by decide +kernel
set_option maxRecDepth 20000 in
theorem arr_in : Cond.arrayClass .int ∈ lw_tbl := by decide +kernel
