/-! what the tables say at the law's entry -/
set_option maxRecDepth 100000 in
theorem gl_nM : ∀ q ∈ gh_nM, Cond.methodLinkNest q.1 q.2.1 q.2.2.1 q.2.2.2 ∈ lw_tbl := by decide +kernel
set_option maxRecDepth 100000 in
theorem gl_nF : ∀ q ∈ gh_nF, Cond.fieldLinkNest q.1 q.2.1 q.2.2.1 q.2.2.2.1 q.2.2.2.2.1 q.2.2.2.2.2 ∈ lw_tbl := by decide +kernel
theorem gl_nest {A : Array Value} {s : State} (hts : ∀ w ∈ lw_tbl, w.before A s = true) : gh_nest s := ⟨fun q hq => va_Nw.of rfl (hts _ (gl_nM q hq)), fun q hq => va_Nw.of rfl (hts _ (gl_nF q hq))⟩
theorem gl_arr {A : Array Value} {s : State} {ty : FieldType} (h : (Cond.arrayClass ty).before A s = true) : ∃ cA : ClassId, ArrOfT s cA ty ∧ s.vm.findClass ("[" ++ ty.toString) = some cA := by
  obtain ⟨c, k, comp, h1, h2, h3⟩ := Cond.arrayClass_spec h
  refine ⟨c, fun n z => ⟨fun k h => (by cases h), k, h2, comp, h3⟩, h1⟩
theorem gl_K {A : Array Value} {s : State} (hts : ∀ w ∈ lw_tbl, w.before A s = true) : ∃ G : gh_G, va_K G.1 vwCl (gh_ty G) s := by
  obtain ⟨c0, i0, h0⟩ := u_known (C := RX0) (T := TX0) (N := 15) (n := 15) hts inX0 (hts _ (by decide +kernel))
  obtain ⟨c1, i1, h1⟩ := u_known (C := RX1) (T := TX1) (N := 5) (n := 5) hts inX1 (hts _ (by decide +kernel))
  obtain ⟨c2, i2, h2⟩ := u_known (C := RX2) (T := TX2) (N := 3) (n := 3) hts inX2 (hts _ (by decide +kernel))
  obtain ⟨c3, i3, h3⟩ := u_known (C := RX3) (T := TX3) (N := 12) (n := 12) hts inX3 (hts _ (by decide +kernel))
  obtain ⟨c4, i4, h4⟩ := u_known (C := RX4) (T := TX4) (N := 9) (n := 9) hts inX4 (hts _ (by decide +kernel))
  obtain ⟨aI, aI1, aI2⟩ := gl_arr (hts (.arrayClass .int) (by decide +kernel))
  obtain ⟨aZ, aZ1, aZ2⟩ := gl_arr (hts (.arrayClass .boolean) (by decide +kernel))
  obtain ⟨aL, aL1, aL2⟩ := gl_arr (hts (.arrayClass .long) (by decide +kernel))
  refine ⟨((fun k => match k with | 0 => c0 | 1 => c1 | 2 => c2 | 3 => c3 | _ => c4, fun k => match k with | 0 => i0 | 1 => i1 | 2 => i2 | 3 => i3 | _ => i4), aI, aZ, aL), fun c q hq => ?_, fun k q hq => ?_⟩
  · match c, hq with
    | 0, hq => cases hq; exact h0
    | 1, hq => cases hq; exact h1
    | 2, hq => cases hq; exact h2
    | 3, hq => cases hq; exact h3
    | 4, hq => cases hq; exact h4
    | n + 5, hq => cases hq
  · match k, hq with
    | 0, hq => cases hq; exact ⟨aI1, aI2⟩
    | 1, hq => cases hq; exact ⟨aZ1, aZ2⟩
    | 2, hq => cases hq; exact ⟨aL1, aL2⟩
    | n + 3, hq => cases hq
theorem gl_fc {A : Array Value} {s : State} (hts : ∀ w ∈ lw_tbl, w.before A s = true) : ∃ c : ClassId, s.vm.findClass RX2 = some c := by
  obtain ⟨cC, kC, hfc, hk, hkind, -⟩ := Cond.instantiable_spec (hts (.instantiable RX2 3) (by decide +kernel))
  exact ⟨cC, hfc⟩
set_option maxRecDepth 100000 in
theorem gl_sw : ∀ q ∈ gx_str, Cond.stringRef RX2 q.1 q.2 ∈ lw_tbl := by decide +kernel
theorem gl_str {A : Array Value} {s : State} (hts : ∀ w ∈ lw_tbl, w.before A s = true) : ∀ q ∈ gx_str, ∃ sa : Nat, vk_R RX2 q.1 q.2 sa s := fun q hq => by
  obtain ⟨c, hc⟩ := gl_fc hts
  have hw := hts _ (gl_sw q hq)
  obtain ⟨k, cf, i, a, h1, h2, h3, h4, h5, h6⟩ := Cond.stringRef_spec hc hw
  exact ⟨a, vk_R.of hw h6⟩
theorem gl_V {A : Array Value} {s : State} (hts : ∀ w ∈ lw_tbl, w.before A s = true) (hg : (Jvm.Cond.and given_1 narrow_1).before A s = true) : gx_V s := by
  have hs := flat_of_before _ hg
  refine ⟨⟨va_Nw.of rfl (hts _ (by decide +kernel)), va_Nw.of rfl (hts _ (by decide +kernel)), va_Nw.of rfl (hts _ (by decide +kernel))⟩, gl_str hts, va_Nc.of (hs _ (by decide +kernel)), va_Nc.of (hs _ (by decide +kernel)), va_Nc.of (hs _ (by decide +kernel)), va_Nc.of (hs _ (by decide +kernel)), va_Nw.of rfl (hts _ (by decide +kernel)), va_Nw.of rfl (hts _ (by decide +kernel)), va_Nw.of rfl (hts _ (by decide +kernel))⟩
theorem gl_Z {B : Array Value} {s : State} {A : Nat → Prop} (hts : ∀ w ∈ lw_tbl, w.before B s = true) (hg : (Jvm.Cond.and given_1 narrow_1).before B s = true) (hA : ∀ a : Nat, a < s.heap.size → ¬ A a) : gx_Z A s s.heap := by
  have hs := flat_of_before _ hg
  exact ⟨vx_Zqof (hts _ (by decide +kernel)) (hts _ (by decide +kernel)) (hs _ (by decide +kernel)) hA, vx_Zqof (hts _ (by decide +kernel)) (hts _ (by decide +kernel)) (hs _ (by decide +kernel)) hA⟩
