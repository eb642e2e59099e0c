/-! The premise of p20, as it is printed, can't be met: the start of the claim asks of the law's class file that its method 'law' have no exception table; it has one of three rows (the try around drop, needs and pump in the law's text). -/
/-- the class file has three handlers for the law's method -/
theorem gp_three : ((classFile.methodOf? x).bind (fun q => q.code)).map (fun q => q.2.2) = some 3 := by decide +kernel
/-- so it does not say of that method what the premise asks -/
theorem gp_no : ((some classFile : Option ClassFile.Facts.File).any fun f => f.hasCode x code maxLocals ret) = false := by decide +kernel
/-- no launch meets the premise -/
theorem gp_empty (l : Launch) : ¬ Lists l classFile x code maxLocals ret tables_1 room_1 := by
  intro h
  have hm : ((x, code, maxLocals, ret) : MethodName × ByteArray × Nat × Option ClassFile.FieldType) ∈ (headSpec (Cond.code x code maxLocals ret :: tables_1) room_1).pre.codes ++ (headSpec (Cond.code x code maxLocals ret :: tables_1) room_1).post.codes := by
    refine List.mem_append_left _ ?_
    show ((x, code, maxLocals, ret) : MethodName × ByteArray × Nat × Option ClassFile.FieldType) ∈ [(x, code, maxLocals, ret)] ++ (allAtoms tables_1).codes
    exact List.mem_append_left _ (List.mem_singleton.mpr rfl)
  have h1 : ((l.file? x.cls).any fun f => f.hasCode x code maxLocals ret) = true := h.2.2.1.1 _ hm
  have h2 : l.file? x.cls = some classFile := h.2.1
  rw [h2, gp_no] at h1
  exact absurd h1 (by decide)
/-- the witness that a hand-in must hold is false -/
theorem gp_noWitness : ¬ WitnessClaimed_1 := fun ⟨_, _, _, _, _, _, h⟩ => gp_empty launch0 h.1
