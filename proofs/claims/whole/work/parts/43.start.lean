/-! what the tables say at the law's entry -/
set_option maxRecDepth 100000 in
theorem gl_nM : ∀ q ∈ gh_nM, Cond.methodLinkNest q.1 q.2.1 q.2.2.1 q.2.2.2 ∈ lw_tbl := by decide +kernel
set_option maxRecDepth 100000 in
theorem gl_nF : ∀ q ∈ gh_nF, Cond.fieldLinkNest q.1 q.2.1 q.2.2.1 q.2.2.2.1 q.2.2.2.2.1 q.2.2.2.2.2 ∈ lw_tbl := by decide +kernel
theorem gl_nest {A : Array Value} {s : State} (hts : ∀ w ∈ lw_tbl, w.before A s = true) : gh_nest s := ⟨fun q hq => va_Nw.of rfl (hts _ (gl_nM q hq)), fun q hq => va_Nw.of rfl (hts _ (gl_nF q hq))⟩
