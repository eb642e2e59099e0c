set_option maxHeartbeats 4000000 in
set_option maxRecDepth 100000 in
theorem c_X2_isWithin (l : Launch) (G : gh_G) (x : Int32) (lo : Int32) (hh : Int32)  : Met l yX2_isWithin wsX2_isWithin ({ frames := 0, cells := 0, slots := 0, locals := 0 } : Room) (gh_r G [.int x, .int lo, .int hh] ([])) (vp_Si (fun r9 => r9 = gh_iw x lo hh)) 0 0 (fun _ => False) := by
  refine Met.ofW (cc := cX2_isWithin) (maxL := 3) (ret := (some .boolean)) (by decide) rfl ?_
  intro p e s m args below meth c s₁ B hml hv
  obtain ⟨rfl, hP, hE⟩ := hv
  have hx := B.exec
  have hb := B.bytes
  have hr := B.returns
  have hts := atoms_spec (ws := wsX2_isWithin) B.pre
  have hown : s.vm.findClass RX2 = some m.cls := findClass_of_methodNamed B.named
  have hlocks := B.notSynchronized
  have hK := hE.1
  have hl := lv_entry ([.int x, .int lo, .int hh]) (n := 3) (Nat.le_of_ble_eq_true rfl)
  rw [lg_entry_eq]
  generalize (lg_sl ([.int x, .int lo, .int hh]) ++ List.replicate (3 - (lg_sl ([.int x, .int lo, .int hh])).length) Slot.unset).toArray = ls at hl ⊢
  have hl : lv_has ls 3 [(0, .int x), (1, .int lo), (2, .int hh)] := hl
  refine lv_iload_n hx hb dX2_isWithin_0 rfl (lv_at hl 0 rfl) ?_
  refine lv_iload_n hx hb dX2_isWithin_1 rfl (lv_at hl 1 rfl) ?_
  refine lv_icmp_lt (tgt := 14) hx hb dX2_isWithin_2 (by decide) (fun c_1 => ?_) (fun c_1 => ?_)
  · skip
    refine lv_iconst (v := 0) hx hb dX2_isWithin_14 (by decide) ?_
    exact W.zret (v := 0) hx hb hr (by decide) (fun t9 ht hW => ⟨0, rfl, by first | (simp only [gh_iw, c_1, ↓reduceIte, if_true, if_false]; done) | (simp only [gh_iw]; simp only [c_1, ↓reduceIte, if_true, if_false]; done) | (simp [gh_iw, c_1, ↓reduceIte, if_true, if_false]; done), ht⟩) (fun q hq => absurd hq List.not_mem_nil) dX2_isWithin_15
  · skip
    refine lv_iload_n hx hb dX2_isWithin_5 rfl (lv_at hl 0 rfl) ?_
    refine lv_iload_n hx hb dX2_isWithin_6 rfl (lv_at hl 2 rfl) ?_
    refine lv_icmp_gt (tgt := 14) hx hb dX2_isWithin_7 (by decide) (fun c_2 => ?_) (fun c_2 => ?_)
    · skip
      refine lv_iconst (v := 0) hx hb dX2_isWithin_14 (by decide) ?_
      exact W.zret (v := 0) hx hb hr (by decide) (fun t9 ht hW => ⟨0, rfl, by first | (simp only [gh_iw, c_1, c_2, ↓reduceIte, if_true, if_false]; done) | (simp only [gh_iw]; simp only [c_1, c_2, ↓reduceIte, if_true, if_false]; done) | (simp [gh_iw, c_1, c_2, ↓reduceIte, if_true, if_false]; done), ht⟩) (fun q hq => absurd hq List.not_mem_nil) dX2_isWithin_15
    · skip
      refine lv_iconst (v := 1) hx hb dX2_isWithin_10 (by decide) ?_
      refine lv_goto (tgt := 15) hx hb dX2_isWithin_11 (by decide) ?_
      exact W.zret (v := 1) hx hb hr (by decide) (fun t9 ht hW => ⟨1, rfl, by first | (simp only [gh_iw, c_1, c_2, ↓reduceIte, if_true, if_false]; done) | (simp only [gh_iw]; simp only [c_1, c_2, ↓reduceIte, if_true, if_false]; done) | (simp [gh_iw, c_1, c_2, ↓reduceIte, if_true, if_false]; done), ht⟩) (fun q hq => absurd hq List.not_mem_nil) dX2_isWithin_15
set_option maxHeartbeats 4000000 in
set_option maxRecDepth 100000 in
theorem c_X2_distance (l : Launch) (G : gh_G) (x : Int32) (y : Int32)  : Met l yX2_distance wsX2_distance ({ frames := 0, cells := 0, slots := 0, locals := 0 } : Room) (gh_r G [.int x, .int y] ([])) (vp_Si (fun r9 => r9 = gh_ds x y)) 0 0 (fun _ => False) := by
  refine Met.ofW (cc := cX2_distance) (maxL := 2) (ret := (some .int)) (by decide) rfl ?_
  intro p e s m args below meth c s₁ B hml hv
  obtain ⟨rfl, hP, hE⟩ := hv
  have hx := B.exec
  have hb := B.bytes
  have hr := B.returns
  have hts := atoms_spec (ws := wsX2_distance) B.pre
  have hown : s.vm.findClass RX2 = some m.cls := findClass_of_methodNamed B.named
  have hlocks := B.notSynchronized
  have hK := hE.1
  have hl := lv_entry ([.int x, .int y]) (n := 2) (Nat.le_of_ble_eq_true rfl)
  rw [lg_entry_eq]
  generalize (lg_sl ([.int x, .int y]) ++ List.replicate (2 - (lg_sl ([.int x, .int y])).length) Slot.unset).toArray = ls at hl ⊢
  have hl : lv_has ls 2 [(0, .int x), (1, .int y)] := hl
  refine lv_iload_n hx hb dX2_distance_0 rfl (lv_at hl 0 rfl) ?_
  refine lv_iload_n hx hb dX2_distance_1 rfl (lv_at hl 1 rfl) ?_
  refine lv_icmp_ge (tgt := 11) hx hb dX2_distance_2 (by decide) (fun c_1 => ?_) (fun c_1 => ?_)
  · skip
    refine lv_iload_n hx hb dX2_distance_11 rfl (lv_at hl 0 rfl) ?_
    refine lv_iload_n hx hb dX2_distance_12 rfl (lv_at hl 1 rfl) ?_
    refine lv_isub hx hb dX2_distance_13 ?_
    exact W.iret (v := x - y) hx hb hr (fun t9 ht hW => ⟨x - y, rfl, by first | (simp only [gh_ds, c_1, ↓reduceIte, if_true, if_false]; done) | (simp only [gh_ds]; simp only [c_1, ↓reduceIte, if_true, if_false]; done) | (simp [gh_ds, c_1, ↓reduceIte, if_true, if_false]; done), ht⟩) (fun q hq => absurd hq List.not_mem_nil) dX2_distance_14
  · skip
    refine lv_iload_n hx hb dX2_distance_5 rfl (lv_at hl 1 rfl) ?_
    refine lv_iload_n hx hb dX2_distance_6 rfl (lv_at hl 0 rfl) ?_
    refine lv_isub hx hb dX2_distance_7 ?_
    refine lv_goto (tgt := 14) hx hb dX2_distance_8 (by decide) ?_
    exact W.iret (v := y - x) hx hb hr (fun t9 ht hW => ⟨y - x, rfl, by first | (simp only [gh_ds, c_1, ↓reduceIte, if_true, if_false]; done) | (simp only [gh_ds]; simp only [c_1, ↓reduceIte, if_true, if_false]; done) | (simp [gh_ds, c_1, ↓reduceIte, if_true, if_false]; done), ht⟩) (fun q hq => absurd hq List.not_mem_nil) dX2_distance_14
set_option maxHeartbeats 4000000 in
set_option maxRecDepth 100000 in
theorem c_X0_emptyTone (l : Launch) (G : gh_G) (x : Int32)  : Met l yX0_emptyTone wsX0_emptyTone ({ frames := 0, cells := 0, slots := 0, locals := 0 } : Room) (gh_r G [.int x] ([])) (vp_Si (fun r9 => r9 = 120 - 8 * x)) 0 0 (fun _ => False) := by
  refine Met.ofW (cc := cX0_emptyTone) (maxL := 1) (ret := (some .int)) (by decide) rfl ?_
  intro p e s m args below meth c s₁ B hml hv
  obtain ⟨rfl, hP, hE⟩ := hv
  have hx := B.exec
  have hb := B.bytes
  have hr := B.returns
  have hts := atoms_spec (ws := wsX0_emptyTone) B.pre
  have hown : s.vm.findClass RX0 = some m.cls := findClass_of_methodNamed B.named
  have hlocks := B.notSynchronized
  have hK := hE.1
  have hl := lv_entry ([.int x]) (n := 1) (Nat.le_of_ble_eq_true rfl)
  rw [lg_entry_eq]
  generalize (lg_sl ([.int x]) ++ List.replicate (1 - (lg_sl ([.int x])).length) Slot.unset).toArray = ls at hl ⊢
  have hl : lv_has ls 1 [(0, .int x)] := hl
  refine lv_bipush (v := 120) hx hb dX0_emptyTone_0 (by decide) ?_
  refine lv_bipush (v := 8) hx hb dX0_emptyTone_2 (by decide) ?_
  refine lv_iload_n hx hb dX0_emptyTone_4 rfl (lv_at hl 0 rfl) ?_
  refine lv_imul hx hb dX0_emptyTone_5 ?_
  refine lv_isub hx hb dX0_emptyTone_6 ?_
  exact W.iret (v := 120 - (8 * x)) hx hb hr (fun t9 ht hW => ⟨120 - (8 * x), rfl, by first | (simp only [↓reduceIte, if_true, if_false]; done) | (simp only [↓reduceIte, if_true, if_false]; rfl) | (simp [↓reduceIte, if_true, if_false]; done), ht⟩) (fun q hq => absurd hq List.not_mem_nil) dX0_emptyTone_7
set_option maxHeartbeats 4000000 in
set_option maxRecDepth 100000 in
theorem c_X0_dropsPerTone (l : Launch) (G : gh_G) (x : Int32)  : Met l yX0_dropsPerTone wsX0_dropsPerTone ({ frames := 0, cells := 0, slots := 0, locals := 0 } : Room) (gh_r G [.int x] ([])) (vp_Si (fun r9 => r9 = 4 * x)) 0 0 (fun _ => False) := by
  refine Met.ofW (cc := cX0_dropsPerTone) (maxL := 1) (ret := (some .int)) (by decide) rfl ?_
  intro p e s m args below meth c s₁ B hml hv
  obtain ⟨rfl, hP, hE⟩ := hv
  have hx := B.exec
  have hb := B.bytes
  have hr := B.returns
  have hts := atoms_spec (ws := wsX0_dropsPerTone) B.pre
  have hown : s.vm.findClass RX0 = some m.cls := findClass_of_methodNamed B.named
  have hlocks := B.notSynchronized
  have hK := hE.1
  have hl := lv_entry ([.int x]) (n := 1) (Nat.le_of_ble_eq_true rfl)
  rw [lg_entry_eq]
  generalize (lg_sl ([.int x]) ++ List.replicate (1 - (lg_sl ([.int x])).length) Slot.unset).toArray = ls at hl ⊢
  have hl : lv_has ls 1 [(0, .int x)] := hl
  refine lv_iconst (v := 4) hx hb dX0_dropsPerTone_0 (by decide) ?_
  refine lv_iload_n hx hb dX0_dropsPerTone_1 rfl (lv_at hl 0 rfl) ?_
  refine lv_imul hx hb dX0_dropsPerTone_2 ?_
  exact W.iret (v := 4 * x) hx hb hr (fun t9 ht hW => ⟨4 * x, rfl, rfl, ht⟩) (fun q hq => absurd hq List.not_mem_nil) dX0_dropsPerTone_3
set_option maxHeartbeats 4000000 in
set_option maxRecDepth 100000 in
theorem c_X1_hasNote (l : Launch) (G : gh_G) (b : Nat → Nat) (z : gh_B) (x : Int32)  : Met l yX1_hasNote wsX1_hasNote ({ frames := 0, cells := 0, slots := 0, locals := 0 } : Room) (gh_r G [.ref (b 5), .int x] (wS G b z)) (vp_Si (fun r9 => r9 = gh_rg x (z 3 0))) 0 0 (fun _ => False) := by
  refine Met.ofW (cc := cX1_hasNote) (maxL := 2) (ret := (some .boolean)) (by decide) rfl ?_
  intro p e s m args below meth c s₁ B hml hv
  obtain ⟨rfl, hP, hE⟩ := hv
  have hx := B.exec
  have hb := B.bytes
  have hr := B.returns
  have hts := atoms_spec (ws := wsX1_hasNote) B.pre
  have hown : s.vm.findClass RX1 = some m.cls := findClass_of_methodNamed B.named
  have hlocks := B.notSynchronized
  have hK := hE.1
  have hl := lv_entry ([.ref (b 5), .int x]) (n := 2) (Nat.le_of_ble_eq_true rfl)
  rw [lg_entry_eq]
  generalize (lg_sl ([.ref (b 5), .int x]) ++ List.replicate (2 - (lg_sl ([.ref (b 5), .int x])).length) Slot.unset).toArray = ls at hl ⊢
  have hl : lv_has ls 2 [(0, .ref (b 5)), (1, .int x)] := hl
  refine lv_iload_n hx hb dX1_hasNote_0 rfl (lv_at hl 1 rfl) ?_
  refine lv_if_lt (tgt := 16) hx hb dX1_hasNote_1 (by decide) (fun c_1 => ?_) (fun c_1 => ?_)
  · skip
    refine lv_iconst (v := 0) hx hb dX1_hasNote_16 (by decide) ?_
    exact W.zret (v := 0) hx hb hr (by decide) (fun t9 ht hW => ⟨0, rfl, by first | (simp only [gh_rg, c_1, ↓reduceIte, if_true, if_false]; done) | (simp only [gh_rg]; simp only [c_1, ↓reduceIte, if_true, if_false]; done) | (simp [gh_rg, c_1, ↓reduceIte, if_true, if_false]; done), ht⟩) (fun q hq => absurd hq List.not_mem_nil) dX1_hasNote_17
  · skip
    refine lv_iload_n hx hb dX1_hasNote_4 rfl (lv_at hl 1 rfl) ?_
    refine lv_aload_n hx hb dX1_hasNote_5 rfl (lv_at hl 0 rfl) ?_
    refine va_get (D := G.1) (ci := 1) (v := .int (z 3 0)) (C := RX1) (T := TX1) (N := 5) hx hb hts (fun w9 h9 => List.mem_cons_of_mem _ (List.mem_append_right _ h9)) hown hK hP 0 rfl rfl 3 (by decide) (hts (.fieldLink RX1 21 "GlassHarp$Score" "notes" "I") (List.mem_of_getElem? (i := 1) rfl)) (fun _ h9 => h9) rfl dX1_hasNote_6 ?_
    refine lv_icmp_ge (tgt := 16) hx hb dX1_hasNote_9 (by decide) (fun c_2 => ?_) (fun c_2 => ?_)
    · skip
      refine lv_iconst (v := 0) hx hb dX1_hasNote_16 (by decide) ?_
      exact W.zret (v := 0) hx hb hr (by decide) (fun t9 ht hW => ⟨0, rfl, by first | (simp only [gh_rg, c_1, c_2, ↓reduceIte, if_true, if_false]; done) | (simp only [gh_rg]; simp only [c_1, c_2, ↓reduceIte, if_true, if_false]; done) | (simp [gh_rg, c_1, c_2, ↓reduceIte, if_true, if_false]; done), ht⟩) (fun q hq => absurd hq List.not_mem_nil) dX1_hasNote_17
    · skip
      refine lv_iconst (v := 1) hx hb dX1_hasNote_12 (by decide) ?_
      refine lv_goto (tgt := 17) hx hb dX1_hasNote_13 (by decide) ?_
      exact W.zret (v := 1) hx hb hr (by decide) (fun t9 ht hW => ⟨1, rfl, by first | (simp only [gh_rg, c_1, c_2, ↓reduceIte, if_true, if_false]; done) | (simp only [gh_rg]; simp only [c_1, c_2, ↓reduceIte, if_true, if_false]; done) | (simp [gh_rg, c_1, c_2, ↓reduceIte, if_true, if_false]; done), ht⟩) (fun q hq => absurd hq List.not_mem_nil) dX1_hasNote_17
set_option maxHeartbeats 4000000 in
set_option maxRecDepth 100000 in
theorem c_X0_hasGlass (l : Launch) (G : gh_G) (a : Nat → Nat) (sc : Nat) (o : gh_B) (x : Int32)  : Met l yX0_hasGlass wsX0_hasGlass ({ frames := 0, cells := 0, slots := 0, locals := 0 } : Room) (gh_r G [.ref (a 0), .int x] (wO G a sc o)) (vp_Si (fun r9 => r9 = gh_rg x (o 10 0))) 0 0 (fun _ => False) := by
  refine Met.ofW (cc := cX0_hasGlass) (maxL := 2) (ret := (some .boolean)) (by decide) rfl ?_
  intro p e s m args below meth c s₁ B hml hv
  obtain ⟨rfl, hP, hE⟩ := hv
  have hx := B.exec
  have hb := B.bytes
  have hr := B.returns
  have hts := atoms_spec (ws := wsX0_hasGlass) B.pre
  have hown : s.vm.findClass RX0 = some m.cls := findClass_of_methodNamed B.named
  have hlocks := B.notSynchronized
  have hK := hE.1
  have hl := lv_entry ([.ref (a 0), .int x]) (n := 2) (Nat.le_of_ble_eq_true rfl)
  rw [lg_entry_eq]
  generalize (lg_sl ([.ref (a 0), .int x]) ++ List.replicate (2 - (lg_sl ([.ref (a 0), .int x])).length) Slot.unset).toArray = ls at hl ⊢
  have hl : lv_has ls 2 [(0, .ref (a 0)), (1, .int x)] := hl
  refine lv_iload_n hx hb dX0_hasGlass_0 rfl (lv_at hl 1 rfl) ?_
  refine lv_if_lt (tgt := 16) hx hb dX0_hasGlass_1 (by decide) (fun c_1 => ?_) (fun c_1 => ?_)
  · skip
    refine lv_iconst (v := 0) hx hb dX0_hasGlass_16 (by decide) ?_
    exact W.zret (v := 0) hx hb hr (by decide) (fun t9 ht hW => ⟨0, rfl, by first | (simp only [gh_rg, c_1, ↓reduceIte, if_true, if_false]; done) | (simp only [gh_rg]; simp only [c_1, ↓reduceIte, if_true, if_false]; done) | (simp [gh_rg, c_1, ↓reduceIte, if_true, if_false]; done), ht⟩) (fun q hq => absurd hq List.not_mem_nil) dX0_hasGlass_17
  · skip
    refine lv_iload_n hx hb dX0_hasGlass_4 rfl (lv_at hl 1 rfl) ?_
    refine lv_aload_n hx hb dX0_hasGlass_5 rfl (lv_at hl 0 rfl) ?_
    refine va_get (D := G.1) (ci := 0) (v := .int (o 10 0)) (C := RX0) (T := TX0) (N := 15) hx hb hts (fun w9 h9 => List.mem_cons_of_mem _ (List.mem_append_right _ h9)) hown hK hP 0 rfl rfl 10 (by decide) (hts (.fieldLink RX0 40 "GlassHarp$Orchestra" "glasses" "I") (List.mem_of_getElem? (i := 1) rfl)) (fun _ h9 => h9) rfl dX0_hasGlass_6 ?_
    refine lv_icmp_ge (tgt := 16) hx hb dX0_hasGlass_9 (by decide) (fun c_2 => ?_) (fun c_2 => ?_)
    · skip
      refine lv_iconst (v := 0) hx hb dX0_hasGlass_16 (by decide) ?_
      exact W.zret (v := 0) hx hb hr (by decide) (fun t9 ht hW => ⟨0, rfl, by first | (simp only [gh_rg, c_1, c_2, ↓reduceIte, if_true, if_false]; done) | (simp only [gh_rg]; simp only [c_1, c_2, ↓reduceIte, if_true, if_false]; done) | (simp [gh_rg, c_1, c_2, ↓reduceIte, if_true, if_false]; done), ht⟩) (fun q hq => absurd hq List.not_mem_nil) dX0_hasGlass_17
    · skip
      refine lv_iconst (v := 1) hx hb dX0_hasGlass_12 (by decide) ?_
      refine lv_goto (tgt := 17) hx hb dX0_hasGlass_13 (by decide) ?_
      exact W.zret (v := 1) hx hb hr (by decide) (fun t9 ht hW => ⟨1, rfl, by first | (simp only [gh_rg, c_1, c_2, ↓reduceIte, if_true, if_false]; done) | (simp only [gh_rg]; simp only [c_1, c_2, ↓reduceIte, if_true, if_false]; done) | (simp [gh_rg, c_1, c_2, ↓reduceIte, if_true, if_false]; done), ht⟩) (fun q hq => absurd hq List.not_mem_nil) dX0_hasGlass_17
set_option maxHeartbeats 4000000 in
set_option maxRecDepth 100000 in
theorem c_X0_mostDrops (l : Launch) (G : gh_G) (a : Nat → Nat) (sc : Nat) (o : gh_B) (n : Nat) (k : Nat) (hn : o 10 0 = nI n) (hn16 : n ≤ 16) (hk : k < n) : Met l yX0_mostDrops wsX0_mostDrops ({ frames := 1, cells := 0, slots := 0, locals := 21 } : Room) (gh_r G [.ref (a 0), .int (nI k)] (wO G a sc o)) (vp_Si (fun r9 => r9 = 100 * o 2 k)) 0 0 (fun _ => False) := by
  refine Met.ofW (cc := cX0_mostDrops) (maxL := 2) (ret := (some .int)) (by decide) rfl ?_
  intro p e s m args below meth c s₁ B hml hv
  obtain ⟨rfl, hP, hE⟩ := hv
  have hx := B.exec
  have hb := B.bytes
  have hr := B.returns
  have hts := atoms_spec (ws := wsX0_mostDrops) B.pre
  have hown : s.vm.findClass RX0 = some m.cls := findClass_of_methodNamed B.named
  have hlocks := B.notSynchronized
  have hK := hE.1
  have hl := lv_entry ([.ref (a 0), .int (nI k)]) (n := 2) (Nat.le_of_ble_eq_true rfl)
  rw [lg_entry_eq]
  generalize (lg_sl ([.ref (a 0), .int (nI k)]) ++ List.replicate (2 - (lg_sl ([.ref (a 0), .int (nI k)])).length) Slot.unset).toArray = ls at hl ⊢
  have hl : lv_has ls 2 [(0, .ref (a 0)), (1, .int (nI k))] := hl
  refine lv_aload_n hx hb dX0_mostDrops_0 rfl (lv_at hl 0 rfl) ?_
  refine lv_iload_n hx hb dX0_mostDrops_1 rfl (lv_at hl 1 rfl) ?_
  refine gh_ci (va_runV (As := [.int (nI k)]) (rest := []) ⟨hx, hb, hml, hown, hts⟩ (c_X0_hasGlass l G a sc o (nI k)) (cwV 1 hts gX0_mostDrops_X0_hasGlass rfl rfl rfl ⟨rfl, hdS_X0_hasGlass⟩ ⟨Nat.le_of_ble_eq_true rfl, Nat.le_of_ble_eq_true rfl⟩) (gh_rV hE hP (ci := 0) (q0 := 0) rfl rfl) rfl rfl hl.1 rfl (lv_room (Nat.le_of_ble_eq_true rfl)) dX0_mostDrops_2 ⟨Nat.le_of_ble_eq_true rfl, Nat.le_of_ble_eq_true rfl⟩) ?_
  refine gh_vv (y := 1) (gh_rg_1 hn (Nat.lt_of_le_of_lt hn16 (by decide)) hk) ?_
  refine lv_if_eq (tgt := 20) hx hb dX0_mostDrops_5 (by decide) (fun c_1 => absurd c_1 (by decide)) (fun c_1 => ?_)
  refine lv_bipush (v := 100) hx hb dX0_mostDrops_8 (by decide) ?_
  refine lv_aload_n hx hb dX0_mostDrops_10 rfl (lv_at hl 0 rfl) ?_
  refine va_get (D := G.1) (ci := 0) (v := .ref (a 2)) (C := RX0) (T := TX0) (N := 15) hx hb hts (fun w9 h9 => List.mem_cons_of_mem _ (List.mem_append_right _ h9)) hown hK hP 0 rfl rfl 2 (by decide) (hts (.fieldLink RX0 15 "GlassHarp$Orchestra" "sizes" "[I") (List.mem_of_getElem? (i := 1) rfl)) (fun _ h9 => h9) rfl dX0_mostDrops_11 ?_
  refine lv_iload_n hx hb dX0_mostDrops_14 rfl (lv_at hl 1 rfl) ?_
  refine gh_ia (f := o 2) hx hb hK hP 2 0 rfl rfl k (rfl) (by omega) (by decide) dX0_mostDrops_15 ?_
  refine lv_imul hx hb dX0_mostDrops_16 ?_
  refine lv_goto (tgt := 21) hx hb dX0_mostDrops_17 (by decide) ?_
  exact W.iret (v := 100 * (o 2 k)) hx hb hr (fun t9 ht hW => ⟨100 * (o 2 k), rfl, by first | (simp only [c_1, ↓reduceIte, if_true, if_false]; done) | (simp only [c_1, ↓reduceIte, if_true, if_false]; rfl) | (simp [c_1, ↓reduceIte, if_true, if_false]; done), ht⟩) (fun q hq => absurd hq List.not_mem_nil) dX0_mostDrops_21
set_option maxHeartbeats 4000000 in
set_option maxRecDepth 100000 in
theorem c_X0_toneOf (l : Launch) (G : gh_G) (a : Nat → Nat) (sc : Nat) (o : gh_B) (n : Nat) (k : Nat) (hn : o 10 0 = nI n) (hn16 : n ≤ 16) (hk : k < n) : Met l yX0_toneOf wsX0_toneOf ({ frames := 1, cells := 0, slots := 0, locals := 21 } : Room) (gh_r G [.ref (a 0), .int (nI k)] (wO G a sc o)) (vp_Si (fun r9 => r9 = gh_tn o k)) 0 0 (fun _ => False) := by
  refine Met.ofW (cc := cX0_toneOf) (maxL := 4) (ret := (some .int)) (by decide) rfl ?_
  intro p e s m args below meth c s₁ B hml hv
  obtain ⟨rfl, hP, hE⟩ := hv
  have hx := B.exec
  have hb := B.bytes
  have hr := B.returns
  have hts := atoms_spec (ws := wsX0_toneOf) B.pre
  have hown : s.vm.findClass RX0 = some m.cls := findClass_of_methodNamed B.named
  have hlocks := B.notSynchronized
  have hK := hE.1
  have hl := lv_entry ([.ref (a 0), .int (nI k)]) (n := 4) (Nat.le_of_ble_eq_true rfl)
  rw [lg_entry_eq]
  generalize (lg_sl ([.ref (a 0), .int (nI k)]) ++ List.replicate (4 - (lg_sl ([.ref (a 0), .int (nI k)])).length) Slot.unset).toArray = ls at hl ⊢
  have hl : lv_has ls 4 [(0, .ref (a 0)), (1, .int (nI k))] := hl
  refine lv_aload_n hx hb dX0_toneOf_0 rfl (lv_at hl 0 rfl) ?_
  refine lv_iload_n hx hb dX0_toneOf_1 rfl (lv_at hl 1 rfl) ?_
  refine gh_ci (va_runV (As := [.int (nI k)]) (rest := []) ⟨hx, hb, hml, hown, hts⟩ (c_X0_hasGlass l G a sc o (nI k)) (cwV 1 hts gX0_toneOf_X0_hasGlass rfl rfl rfl ⟨rfl, hdS_X0_hasGlass⟩ ⟨Nat.le_of_ble_eq_true rfl, Nat.le_of_ble_eq_true rfl⟩) (gh_rV hE hP (ci := 0) (q0 := 0) rfl rfl) rfl rfl hl.1 rfl (lv_room (Nat.le_of_ble_eq_true rfl)) dX0_toneOf_2 ⟨Nat.le_of_ble_eq_true rfl, Nat.le_of_ble_eq_true rfl⟩) ?_
  refine gh_vv (y := 1) (gh_rg_1 hn (Nat.lt_of_le_of_lt hn16 (by decide)) hk) ?_
  refine lv_if_ne (tgt := 10) hx hb dX0_toneOf_5 (by decide) (fun c_1 => ?_) (fun c_1 => absurd c_1 (by decide))
  refine lv_aload_n hx hb dX0_toneOf_10 rfl (lv_at hl 0 rfl) ?_
  refine va_get (D := G.1) (ci := 0) (v := .ref (a 2)) (C := RX0) (T := TX0) (N := 15) hx hb hts (fun w9 h9 => List.mem_cons_of_mem _ (List.mem_append_right _ h9)) hown hK hP 0 rfl rfl 2 (by decide) (hts (.fieldLink RX0 15 "GlassHarp$Orchestra" "sizes" "[I") (List.mem_of_getElem? (i := 1) rfl)) (fun _ h9 => h9) rfl dX0_toneOf_11 ?_
  refine lv_iload_n hx hb dX0_toneOf_14 rfl (lv_at hl 1 rfl) ?_
  refine gh_ia (f := o 2) hx hb hK hP 2 0 rfl rfl k (rfl) (by omega) (by decide) dX0_toneOf_15 ?_
  refine gh_ci (va_runS (As := [.int (o 2 k)]) (rest := []) ⟨hx, hb, hml, hown, hts⟩ (c_X0_dropsPerTone l G (o 2 k)) (va_cwS 1 hts gX0_toneOf_X0_dropsPerTone rfl rfl rfl hdS_X0_dropsPerTone ⟨Nat.le_of_ble_eq_true rfl, Nat.le_of_ble_eq_true rfl⟩) (gh_rS hE (fun k q h => by simp at h)) rfl rfl hl.1 rfl (lv_room (Nat.le_of_ble_eq_true rfl)) dX0_toneOf_16 ⟨Nat.le_of_ble_eq_true rfl, Nat.le_of_ble_eq_true rfl⟩) ?_
  refine lv_istore_n (lv' := [(2, .int (4 * (o 2 k))), (0, .ref (a 0)), (1, .int (nI k))]) hx hb dX0_toneOf_19 rfl hl (by decide) rfl (fun ls hl => ?_)
  refine lv_iload_n hx hb dX0_toneOf_20 rfl (lv_at hl 0 rfl) ?_
  refine lv_if_le (tgt := 35) hx hb dX0_toneOf_21 (by decide) (fun c_2 => ?_) (fun c_2 => ?_)
  · skip
    refine lv_iconst (v := 0) hx hb dX0_toneOf_35 (by decide) ?_
    refine lv_istore_n (lv' := [(3, .int 0), (2, .int (4 * (o 2 k))), (0, .ref (a 0)), (1, .int (nI k))]) hx hb dX0_toneOf_36 rfl hl (by decide) rfl (fun ls hl => ?_)
    refine lv_iconst (v := 0) hx hb dX0_toneOf_37 (by decide) ?_
    refine lv_aload_n hx hb dX0_toneOf_38 rfl (lv_at hl 2 rfl) ?_
    refine va_get (D := G.1) (ci := 0) (v := .ref (a 2)) (C := RX0) (T := TX0) (N := 15) hx hb hts (fun w9 h9 => List.mem_cons_of_mem _ (List.mem_append_right _ h9)) hown hK hP 0 rfl rfl 2 (by decide) (hts (.fieldLink RX0 15 "GlassHarp$Orchestra" "sizes" "[I") (List.mem_of_getElem? (i := 1) rfl)) (fun _ h9 => h9) rfl dX0_toneOf_39 ?_
    refine lv_iload_n hx hb dX0_toneOf_42 rfl (lv_at hl 3 rfl) ?_
    refine gh_ia (f := o 2) hx hb hK hP 2 0 rfl rfl k (rfl) (by omega) (by decide) dX0_toneOf_43 ?_
    refine gh_ci (va_runS (As := [.int (o 2 k)]) (rest := [.int 0]) ⟨hx, hb, hml, hown, hts⟩ (c_X0_emptyTone l G (o 2 k)) (va_cwS 1 hts gX0_toneOf_X0_emptyTone rfl rfl rfl hdS_X0_emptyTone ⟨Nat.le_of_ble_eq_true rfl, Nat.le_of_ble_eq_true rfl⟩) (gh_rS hE (fun k q h => by simp at h)) rfl rfl hl.1 rfl (lv_room (Nat.le_of_ble_eq_true rfl)) dX0_toneOf_44 ⟨Nat.le_of_ble_eq_true rfl, Nat.le_of_ble_eq_true rfl⟩) ?_
    refine lv_iload_n hx hb dX0_toneOf_47 rfl (lv_at hl 0 rfl) ?_
    refine lv_isub hx hb dX0_toneOf_48 ?_
    refine va_mmax hx hb (hml.trans hl.1.symm) hown (hts (.methodLink RX0 75 Lib.Math.max.name) (List.mem_of_getElem? (i := 3) rfl)) (hts (.static Lib.Math.max.name) (List.mem_of_getElem? (i := 4) rfl)) (hts (.initialized "java/lang/Math") (List.mem_of_getElem? (i := 5) rfl)) (hts (.code Lib.Math.max.name Lib.Math.max.code 2 (some .int)) (List.mem_of_getElem? (i := 6) rfl)) (Nat.le_of_ble_eq_true rfl) (Nat.le_of_ble_eq_true rfl) (Nat.le_of_ble_eq_true rfl) (Nat.le_of_ble_eq_true rfl) dX0_toneOf_49 ?_
    exact W.iret (v := if 0 < (120 - 8 * (o 2 k)) - 0 then (120 - 8 * (o 2 k)) - 0 else 0) hx hb hr (fun t9 ht hW => ⟨if 0 < (120 - 8 * (o 2 k)) - 0 then (120 - 8 * (o 2 k)) - 0 else 0, rfl, by first | (simp only [gh_tn, gh_lw, c_1, c_2, ↓reduceIte, if_true, if_false]; done) | (simp only [gh_tn, gh_lw]; simp only [c_1, c_2, ↓reduceIte, if_true, if_false]; done) | (simp [gh_tn, gh_lw, c_1, c_2, ↓reduceIte, if_true, if_false]; done), ht⟩) (fun q hq => absurd hq List.not_mem_nil) dX0_toneOf_52
  · skip
    refine lv_aload_n hx hb dX0_toneOf_24 rfl (lv_at hl 1 rfl) ?_
    refine va_get (D := G.1) (ci := 0) (v := .ref (a 3)) (C := RX0) (T := TX0) (N := 15) hx hb hts (fun w9 h9 => List.mem_cons_of_mem _ (List.mem_append_right _ h9)) hown hK hP 0 rfl rfl 3 (by decide) (hts (.fieldLink RX0 18 "GlassHarp$Orchestra" "drops" "[I") (List.mem_of_getElem? (i := 2) rfl)) (fun _ h9 => h9) rfl dX0_toneOf_25 ?_
    refine lv_iload_n hx hb dX0_toneOf_28 rfl (lv_at hl 2 rfl) ?_
    refine gh_ia (f := o 3) hx hb hK hP 3 0 rfl rfl k (rfl) (by omega) (by decide) dX0_toneOf_29 ?_
    refine lv_iload_n hx hb dX0_toneOf_30 rfl (lv_at hl 0 rfl) ?_
    refine lv_idiv hx hb dX0_toneOf_31 (fun h9 => c_2 (by rw [h9]; decide)) ?_
    refine lv_goto (tgt := 36) hx hb dX0_toneOf_32 (by decide) ?_
    refine lv_istore_n (lv' := [(3, .int ((o 3 k) / (4 * (o 2 k)))), (2, .int (4 * (o 2 k))), (0, .ref (a 0)), (1, .int (nI k))]) hx hb dX0_toneOf_36 rfl hl (by decide) rfl (fun ls hl => ?_)
    refine lv_iconst (v := 0) hx hb dX0_toneOf_37 (by decide) ?_
    refine lv_aload_n hx hb dX0_toneOf_38 rfl (lv_at hl 2 rfl) ?_
    refine va_get (D := G.1) (ci := 0) (v := .ref (a 2)) (C := RX0) (T := TX0) (N := 15) hx hb hts (fun w9 h9 => List.mem_cons_of_mem _ (List.mem_append_right _ h9)) hown hK hP 0 rfl rfl 2 (by decide) (hts (.fieldLink RX0 15 "GlassHarp$Orchestra" "sizes" "[I") (List.mem_of_getElem? (i := 1) rfl)) (fun _ h9 => h9) rfl dX0_toneOf_39 ?_
    refine lv_iload_n hx hb dX0_toneOf_42 rfl (lv_at hl 3 rfl) ?_
    refine gh_ia (f := o 2) hx hb hK hP 2 0 rfl rfl k (rfl) (by omega) (by decide) dX0_toneOf_43 ?_
    refine gh_ci (va_runS (As := [.int (o 2 k)]) (rest := [.int 0]) ⟨hx, hb, hml, hown, hts⟩ (c_X0_emptyTone l G (o 2 k)) (va_cwS 1 hts gX0_toneOf_X0_emptyTone rfl rfl rfl hdS_X0_emptyTone ⟨Nat.le_of_ble_eq_true rfl, Nat.le_of_ble_eq_true rfl⟩) (gh_rS hE (fun k q h => by simp at h)) rfl rfl hl.1 rfl (lv_room (Nat.le_of_ble_eq_true rfl)) dX0_toneOf_44 ⟨Nat.le_of_ble_eq_true rfl, Nat.le_of_ble_eq_true rfl⟩) ?_
    refine lv_iload_n hx hb dX0_toneOf_47 rfl (lv_at hl 0 rfl) ?_
    refine lv_isub hx hb dX0_toneOf_48 ?_
    refine va_mmax hx hb (hml.trans hl.1.symm) hown (hts (.methodLink RX0 75 Lib.Math.max.name) (List.mem_of_getElem? (i := 3) rfl)) (hts (.static Lib.Math.max.name) (List.mem_of_getElem? (i := 4) rfl)) (hts (.initialized "java/lang/Math") (List.mem_of_getElem? (i := 5) rfl)) (hts (.code Lib.Math.max.name Lib.Math.max.code 2 (some .int)) (List.mem_of_getElem? (i := 6) rfl)) (Nat.le_of_ble_eq_true rfl) (Nat.le_of_ble_eq_true rfl) (Nat.le_of_ble_eq_true rfl) (Nat.le_of_ble_eq_true rfl) dX0_toneOf_49 ?_
    exact W.iret (v := if 0 < (120 - 8 * (o 2 k)) - ((o 3 k) / (4 * (o 2 k))) then (120 - 8 * (o 2 k)) - ((o 3 k) / (4 * (o 2 k))) else 0) hx hb hr (fun t9 ht hW => ⟨if 0 < (120 - 8 * (o 2 k)) - ((o 3 k) / (4 * (o 2 k))) then (120 - 8 * (o 2 k)) - ((o 3 k) / (4 * (o 2 k))) else 0, rfl, by first | (simp only [gh_tn, gh_lw, c_1, c_2, ↓reduceIte, if_true, if_false]; done) | (simp only [gh_tn, gh_lw]; simp only [c_1, c_2, ↓reduceIte, if_true, if_false]; done) | (simp [gh_tn, gh_lw, c_1, c_2, ↓reduceIte, if_true, if_false]; done), ht⟩) (fun q hq => absurd hq List.not_mem_nil) dX0_toneOf_52
set_option maxHeartbeats 4000000 in
set_option maxRecDepth 100000 in
theorem c_X0_fewestDropsFor (l : Launch) (G : gh_G) (a : Nat → Nat) (sc : Nat) (o : gh_B) (n : Nat) (k : Nat) (t : Int32) (hn : o 10 0 = nI n) (hn16 : n ≤ 16) (hk : k < n) : Met l yX0_fewestDropsFor wsX0_fewestDropsFor ({ frames := 2, cells := 0, slots := 0, locals := 42 } : Room) (gh_r G [.ref (a 0), .int (nI k), .int t] (wO G a sc o)) (vp_Si (fun r9 => r9 = gh_fw o k t)) 0 0 (fun _ => False) := by
  refine Met.ofW (cc := cX0_fewestDropsFor) (maxL := 5) (ret := (some .int)) (by decide) rfl ?_
  intro p e s m args below meth c s₁ B hml hv
  obtain ⟨rfl, hP, hE⟩ := hv
  have hx := B.exec
  have hb := B.bytes
  have hr := B.returns
  have hts := atoms_spec (ws := wsX0_fewestDropsFor) B.pre
  have hown : s.vm.findClass RX0 = some m.cls := findClass_of_methodNamed B.named
  have hlocks := B.notSynchronized
  have hK := hE.1
  have hl := lv_entry ([.ref (a 0), .int (nI k), .int t]) (n := 5) (Nat.le_of_ble_eq_true rfl)
  rw [lg_entry_eq]
  generalize (lg_sl ([.ref (a 0), .int (nI k), .int t]) ++ List.replicate (5 - (lg_sl ([.ref (a 0), .int (nI k), .int t])).length) Slot.unset).toArray = ls at hl ⊢
  have hl : lv_has ls 5 [(0, .ref (a 0)), (1, .int (nI k)), (2, .int t)] := hl
  refine lv_aload_n hx hb dX0_fewestDropsFor_0 rfl (lv_at hl 0 rfl) ?_
  refine lv_iload_n hx hb dX0_fewestDropsFor_1 rfl (lv_at hl 1 rfl) ?_
  refine gh_ci (va_runV (As := [.int (nI k)]) (rest := []) ⟨hx, hb, hml, hown, hts⟩ (c_X0_hasGlass l G a sc o (nI k)) (cwV 1 hts gX0_fewestDropsFor_X0_hasGlass rfl rfl rfl ⟨rfl, hdS_X0_hasGlass⟩ ⟨Nat.le_of_ble_eq_true rfl, Nat.le_of_ble_eq_true rfl⟩) (gh_rV hE hP (ci := 0) (q0 := 0) rfl rfl) rfl rfl hl.1 rfl (lv_room (Nat.le_of_ble_eq_true rfl)) dX0_fewestDropsFor_2 ⟨Nat.le_of_ble_eq_true rfl, Nat.le_of_ble_eq_true rfl⟩) ?_
  refine gh_vv (y := 1) (gh_rg_1 hn (Nat.lt_of_le_of_lt hn16 (by decide)) hk) ?_
  refine lv_if_ne (tgt := 10) hx hb dX0_fewestDropsFor_5 (by decide) (fun c_1 => ?_) (fun c_1 => absurd c_1 (by decide))
  refine lv_aload_n hx hb dX0_fewestDropsFor_10 rfl (lv_at hl 0 rfl) ?_
  refine va_get (D := G.1) (ci := 0) (v := .ref (a 2)) (C := RX0) (T := TX0) (N := 15) hx hb hts (fun w9 h9 => List.mem_cons_of_mem _ (List.mem_append_right _ h9)) hown hK hP 0 rfl rfl 2 (by decide) (hts (.fieldLink RX0 15 "GlassHarp$Orchestra" "sizes" "[I") (List.mem_of_getElem? (i := 1) rfl)) (fun _ h9 => h9) rfl dX0_fewestDropsFor_11 ?_
  refine lv_iload_n hx hb dX0_fewestDropsFor_14 rfl (lv_at hl 1 rfl) ?_
  refine gh_ia (f := o 2) hx hb hK hP 2 0 rfl rfl k (rfl) (by omega) (by decide) dX0_fewestDropsFor_15 ?_
  refine lv_istore_n (lv' := [(3, .int (o 2 k)), (0, .ref (a 0)), (1, .int (nI k)), (2, .int t)]) hx hb dX0_fewestDropsFor_16 rfl hl (by decide) rfl (fun ls hl => ?_)
  refine lv_iload_n hx hb dX0_fewestDropsFor_17 rfl (lv_at hl 0 rfl) ?_
  refine gh_ci (va_runS (As := [.int (o 2 k)]) (rest := []) ⟨hx, hb, hml, hown, hts⟩ (c_X0_dropsPerTone l G (o 2 k)) (va_cwS 1 hts gX0_fewestDropsFor_X0_dropsPerTone rfl rfl rfl hdS_X0_dropsPerTone ⟨Nat.le_of_ble_eq_true rfl, Nat.le_of_ble_eq_true rfl⟩) (gh_rS hE (fun k q h => by simp at h)) rfl rfl hl.1 rfl (lv_room (Nat.le_of_ble_eq_true rfl)) dX0_fewestDropsFor_18 ⟨Nat.le_of_ble_eq_true rfl, Nat.le_of_ble_eq_true rfl⟩) ?_
  refine lv_iload_n hx hb dX0_fewestDropsFor_21 rfl (lv_at hl 0 rfl) ?_
  refine gh_ci (va_runS (As := [.int (o 2 k)]) (rest := [.int (4 * (o 2 k))]) ⟨hx, hb, hml, hown, hts⟩ (c_X0_emptyTone l G (o 2 k)) (va_cwS 1 hts gX0_fewestDropsFor_X0_emptyTone rfl rfl rfl hdS_X0_emptyTone ⟨Nat.le_of_ble_eq_true rfl, Nat.le_of_ble_eq_true rfl⟩) (gh_rS hE (fun k q h => by simp at h)) rfl rfl hl.1 rfl (lv_room (Nat.le_of_ble_eq_true rfl)) dX0_fewestDropsFor_22 ⟨Nat.le_of_ble_eq_true rfl, Nat.le_of_ble_eq_true rfl⟩) ?_
  refine lv_iload_n hx hb dX0_fewestDropsFor_25 rfl (lv_at hl 3 rfl) ?_
  refine lv_isub hx hb dX0_fewestDropsFor_26 ?_
  refine lv_imul hx hb dX0_fewestDropsFor_27 ?_
  refine lv_istore (lv' := [(4, .int ((4 * (o 2 k)) * ((120 - 8 * (o 2 k)) - t))), (3, .int (o 2 k)), (0, .ref (a 0)), (1, .int (nI k)), (2, .int t)]) hx hb dX0_fewestDropsFor_28 hl (by decide) rfl (fun ls hl => ?_)
  refine lv_iload hx hb dX0_fewestDropsFor_30 (lv_at hl 0 rfl) ?_
  refine lv_iconst (v := 0) hx hb dX0_fewestDropsFor_32 (by decide) ?_
  refine lv_aload_n hx hb dX0_fewestDropsFor_33 rfl (lv_at hl 2 rfl) ?_
  refine lv_iload_n hx hb dX0_fewestDropsFor_34 rfl (lv_at hl 3 rfl) ?_
  refine gh_ci (va_runV (As := [.int (nI k)]) (rest := [.int 0, .int ((4 * (o 2 k)) * ((120 - 8 * (o 2 k)) - t))]) ⟨hx, hb, hml, hown, hts⟩ (c_X0_mostDrops l G a sc o n k (hn) (hn16) (hk)) (cwV 1 hts gX0_fewestDropsFor_X0_mostDrops rfl rfl rfl ⟨rfl, hdS_X0_mostDrops⟩ ⟨Nat.le_of_ble_eq_true rfl, Nat.le_of_ble_eq_true rfl⟩) (gh_rV hE hP (ci := 0) (q0 := 0) rfl rfl) rfl rfl hl.1 rfl (lv_room (Nat.le_of_ble_eq_true rfl)) dX0_fewestDropsFor_35 ⟨Nat.le_of_ble_eq_true rfl, Nat.le_of_ble_eq_true rfl⟩) ?_
  refine gh_ci (va_runSN (As := [.int ((4 * (o 2 k)) * ((120 - 8 * (o 2 k)) - t)), .int 0, .int (100 * o 2 k)]) (rest := []) ⟨hx, hb, hml, hown, hts⟩ (c_X2_isWithin l G ((4 * (o 2 k)) * ((120 - 8 * (o 2 k)) - t)) 0 (100 * o 2 k)) ⟨va_cnB 3 hts gX0_fewestDropsFor_X2_isWithin_n60 rfl rfl rfl (hE.2.1 (RX0, 60, yX2_isWithin, RX2) (List.mem_of_getElem? (i := 6) rfl)) (hts (.initialized RX2) (List.mem_of_getElem? (i := 19) rfl)) hdS_X2_isWithin ⟨Nat.le_of_ble_eq_true rfl, Nat.le_of_ble_eq_true rfl⟩, (hts (.static yX2_isWithin) (List.mem_of_getElem? (i := 18) rfl)), trivial⟩ (gh_rS hE (fun k q h => by simp at h)) rfl rfl hl.1 rfl (lv_room (Nat.le_of_ble_eq_true rfl)) dX0_fewestDropsFor_38 ⟨Nat.le_of_ble_eq_true rfl, Nat.le_of_ble_eq_true rfl⟩) ?_
  refine lv_if_eq (tgt := 49) hx hb dX0_fewestDropsFor_41 (by decide) (fun c_2 => ?_) (fun c_2 => ?_)
  · skip
    refine lv_iconst (v := (-1)) hx hb dX0_fewestDropsFor_49 (by decide) ?_
    exact W.iret (v := (-1)) hx hb hr (fun t9 ht hW => ⟨(-1), rfl, by first | (simp only [gh_fw, c_1, c_2, ↓reduceIte, if_true, if_false]; done) | (simp only [gh_fw]; simp only [c_1, c_2, ↓reduceIte, if_true, if_false]; done) | (simp [gh_fw, c_1, c_2, ↓reduceIte, if_true, if_false]; done), ht⟩) (fun q hq => absurd hq List.not_mem_nil) dX0_fewestDropsFor_50
  · skip
    refine lv_iload hx hb dX0_fewestDropsFor_44 (lv_at hl 0 rfl) ?_
    refine lv_goto (tgt := 50) hx hb dX0_fewestDropsFor_46 (by decide) ?_
    exact W.iret (v := (4 * (o 2 k)) * ((120 - 8 * (o 2 k)) - t)) hx hb hr (fun t9 ht hW => ⟨(4 * (o 2 k)) * ((120 - 8 * (o 2 k)) - t), rfl, by first | (simp only [gh_fw, c_1, c_2, ↓reduceIte, if_true, if_false]; done) | (simp only [gh_fw]; simp only [c_1, c_2, ↓reduceIte, if_true, if_false]; done) | (simp [gh_fw, c_1, c_2, ↓reduceIte, if_true, if_false]; done), ht⟩) (fun q hq => absurd hq List.not_mem_nil) dX0_fewestDropsFor_50
set_option maxHeartbeats 4000000 in
set_option maxRecDepth 100000 in
theorem c_X0_canBeTuned (l : Launch) (G : gh_G) (a : Nat → Nat) (sc : Nat) (o : gh_B) (n : Nat) (k : Nat) (t : Int32) (hn : o 10 0 = nI n) (hn16 : n ≤ 16) (hk : k < n) : Met l yX0_canBeTuned wsX0_canBeTuned ({ frames := 3, cells := 0, slots := 0, locals := 66 } : Room) (gh_r G [.ref (a 0), .int (nI k), .int t] (wO G a sc o)) (vp_Si (fun r9 => r9 = gh_cb o k t)) 0 0 (fun _ => False) := by
  refine Met.ofW (cc := cX0_canBeTuned) (maxL := 3) (ret := (some .boolean)) (by decide) rfl ?_
  intro p e s m args below meth c s₁ B hml hv
  obtain ⟨rfl, hP, hE⟩ := hv
  have hx := B.exec
  have hb := B.bytes
  have hr := B.returns
  have hts := atoms_spec (ws := wsX0_canBeTuned) B.pre
  have hown : s.vm.findClass RX0 = some m.cls := findClass_of_methodNamed B.named
  have hlocks := B.notSynchronized
  have hK := hE.1
  have hl := lv_entry ([.ref (a 0), .int (nI k), .int t]) (n := 3) (Nat.le_of_ble_eq_true rfl)
  rw [lg_entry_eq]
  generalize (lg_sl ([.ref (a 0), .int (nI k), .int t]) ++ List.replicate (3 - (lg_sl ([.ref (a 0), .int (nI k), .int t])).length) Slot.unset).toArray = ls at hl ⊢
  have hl : lv_has ls 3 [(0, .ref (a 0)), (1, .int (nI k)), (2, .int t)] := hl
  refine lv_aload_n hx hb dX0_canBeTuned_0 rfl (lv_at hl 0 rfl) ?_
  refine lv_iload_n hx hb dX0_canBeTuned_1 rfl (lv_at hl 1 rfl) ?_
  refine gh_ci (va_runV (As := [.int (nI k)]) (rest := []) ⟨hx, hb, hml, hown, hts⟩ (c_X0_hasGlass l G a sc o (nI k)) (cwV 1 hts gX0_canBeTuned_X0_hasGlass rfl rfl rfl ⟨rfl, hdS_X0_hasGlass⟩ ⟨Nat.le_of_ble_eq_true rfl, Nat.le_of_ble_eq_true rfl⟩) (gh_rV hE hP (ci := 0) (q0 := 0) rfl rfl) rfl rfl hl.1 rfl (lv_room (Nat.le_of_ble_eq_true rfl)) dX0_canBeTuned_2 ⟨Nat.le_of_ble_eq_true rfl, Nat.le_of_ble_eq_true rfl⟩) ?_
  refine gh_vv (y := 1) (gh_rg_1 hn (Nat.lt_of_le_of_lt hn16 (by decide)) hk) ?_
  refine lv_if_eq (tgt := 31) hx hb dX0_canBeTuned_5 (by decide) (fun c_1 => absurd c_1 (by decide)) (fun c_1 => ?_)
  refine lv_aload_n hx hb dX0_canBeTuned_8 rfl (lv_at hl 0 rfl) ?_
  refine va_get (D := G.1) (ci := 0) (v := .ref (a 4)) (C := RX0) (T := TX0) (N := 15) hx hb hts (fun w9 h9 => List.mem_cons_of_mem _ (List.mem_append_right _ h9)) hown hK hP 0 rfl rfl 4 (by decide) (hts (.fieldLink RX0 21 "GlassHarp$Orchestra" "cracked" "[Z") (List.mem_of_getElem? (i := 1) rfl)) (fun _ h9 => h9) rfl dX0_canBeTuned_9 ?_
  refine lv_iload_n hx hb dX0_canBeTuned_12 rfl (lv_at hl 1 rfl) ?_
  refine gh_za (f := o 4) hx hb hK hP 4 1 rfl rfl k (rfl) (by omega) (by decide) dX0_canBeTuned_13 ?_
  refine lv_if_ne (tgt := 31) hx hb dX0_canBeTuned_14 (by decide) (fun c_2 => ?_) (fun c_2 => ?_)
  · skip
    refine lv_iconst (v := 0) hx hb dX0_canBeTuned_31 (by decide) ?_
    exact W.zret (v := 0) hx hb hr (by decide) (fun t9 ht hW => ⟨0, rfl, by first | (simp only [gh_cb, c_1, c_2, ↓reduceIte, if_true, if_false]; done) | (simp only [gh_cb]; simp only [c_1, c_2, ↓reduceIte, if_true, if_false]; done) | (simp [gh_cb, c_1, c_2, ↓reduceIte, if_true, if_false]; done), ht⟩) (fun q hq => absurd hq List.not_mem_nil) dX0_canBeTuned_32
  · skip
    refine lv_aload_n hx hb dX0_canBeTuned_17 rfl (lv_at hl 0 rfl) ?_
    refine lv_iload_n hx hb dX0_canBeTuned_18 rfl (lv_at hl 1 rfl) ?_
    refine lv_iload_n hx hb dX0_canBeTuned_19 rfl (lv_at hl 2 rfl) ?_
    refine gh_ci (va_runV (As := [.int (nI k), .int t]) (rest := []) ⟨hx, hb, hml, hown, hts⟩ (c_X0_fewestDropsFor l G a sc o n k t (hn) (hn16) (hk)) (cwV 2 hts gX0_canBeTuned_X0_fewestDropsFor rfl rfl rfl ⟨rfl, hdS_X0_fewestDropsFor⟩ ⟨Nat.le_of_ble_eq_true rfl, Nat.le_of_ble_eq_true rfl⟩) (gh_rV hE hP (ci := 0) (q0 := 0) rfl rfl) rfl rfl hl.1 rfl (lv_room (Nat.le_of_ble_eq_true rfl)) dX0_canBeTuned_20 ⟨Nat.le_of_ble_eq_true rfl, Nat.le_of_ble_eq_true rfl⟩) ?_
    refine lv_iconst (v := (-1)) hx hb dX0_canBeTuned_23 (by decide) ?_
    refine lv_icmp_eq (tgt := 31) hx hb dX0_canBeTuned_24 (by decide) (fun c_3 => ?_) (fun c_3 => ?_)
    · skip
      refine lv_iconst (v := 0) hx hb dX0_canBeTuned_31 (by decide) ?_
      exact W.zret (v := 0) hx hb hr (by decide) (fun t9 ht hW => ⟨0, rfl, by first | (simp only [gh_cb, c_1, c_2, c_3, ↓reduceIte, if_true, if_false]; done) | (simp only [gh_cb]; simp only [c_1, c_2, c_3, ↓reduceIte, if_true, if_false]; done) | (simp [gh_cb, c_1, c_2, c_3, ↓reduceIte, if_true, if_false]; done), ht⟩) (fun q hq => absurd hq List.not_mem_nil) dX0_canBeTuned_32
    · skip
      refine lv_iconst (v := 1) hx hb dX0_canBeTuned_27 (by decide) ?_
      refine lv_goto (tgt := 32) hx hb dX0_canBeTuned_28 (by decide) ?_
      exact W.zret (v := 1) hx hb hr (by decide) (fun t9 ht hW => ⟨1, rfl, by first | (simp only [gh_cb, c_1, c_2, c_3, ↓reduceIte, if_true, if_false]; done) | (simp only [gh_cb]; simp only [c_1, c_2, c_3, ↓reduceIte, if_true, if_false]; done) | (simp [gh_cb, c_1, c_2, c_3, ↓reduceIte, if_true, if_false]; done), ht⟩) (fun q hq => absurd hq List.not_mem_nil) dX0_canBeTuned_32
set_option maxHeartbeats 4000000 in
set_option maxRecDepth 100000 in
theorem c_X0_crackedGlasses (l : Launch) (G : gh_G) (a : Nat → Nat) (sc : Nat) (o : gh_B) (n : Nat) (hn : o 10 0 = nI n) (hn16 : n ≤ 16) : Met l yX0_crackedGlasses wsX0_crackedGlasses ({ frames := 0, cells := 0, slots := 0, locals := 0 } : Room) (gh_r G [.ref (a 0)] (wO G a sc o)) (vp_Si (fun r9 => r9 = gh_cn (o 4) n)) 0 0 (fun _ => False) := by
  refine Met.ofW (cc := cX0_crackedGlasses) (maxL := 3) (ret := (some .int)) (by decide) rfl ?_
  intro p e s m args below meth c s₁ B hml hv
  obtain ⟨rfl, hP, hE⟩ := hv
  have hx := B.exec
  have hb := B.bytes
  have hr := B.returns
  have hts := atoms_spec (ws := wsX0_crackedGlasses) B.pre
  have hown : s.vm.findClass RX0 = some m.cls := findClass_of_methodNamed B.named
  have hlocks := B.notSynchronized
  have hK := hE.1
  have hl := lv_entry ([.ref (a 0)]) (n := 3) (Nat.le_of_ble_eq_true rfl)
  rw [lg_entry_eq]
  generalize (lg_sl ([.ref (a 0)]) ++ List.replicate (3 - (lg_sl ([.ref (a 0)])).length) Slot.unset).toArray = ls at hl ⊢
  have hl : lv_has ls 3 [(0, .ref (a 0))] := hl
  refine lv_iconst (v := 0) hx hb dX0_crackedGlasses_0 (by decide) ?_
  refine lv_istore_n (lv' := [(1, .int 0), (0, .ref (a 0))]) hx hb dX0_crackedGlasses_1 rfl hl (by decide) rfl (fun ls hl => ?_)
  refine lv_iconst (v := 0) hx hb dX0_crackedGlasses_2 (by decide) ?_
  refine lv_istore_n (lv' := [(2, .int 0), (1, .int 0), (0, .ref (a 0))]) hx hb dX0_crackedGlasses_3 rfl hl (by decide) rfl (fun ls hl => ?_)
  have J4 : ∀ (x1 : Int32), (x1 = gh_cn (o 4) 0) → ∀ (ls : Array Slot), lv_has ls 3 [(0, .ref (a 0)), (1, .int x1), (2, .int (nI 0))] → W p l e (headSpec wsX0_crackedGlasses ({ frames := 0, cells := 0, slots := 0, locals := 0 } : Room)).room s m ([.ref (a 0)] : List Value).toArray below meth c s.heap [] 0 0 (MQ below (vp_Si (fun r9 => r9 = gh_cn (o 4) n)) ([.ref (a 0)] : List Value).toArray s 0 0 (fun _ => False)) (F0 m 4 ls []) := by
    refine gh_loop (n := n) (i0 := 0) (Nat.zero_le _) (P := fun i => ∀ (x1 : Int32), (x1 = gh_cn (o 4) i) → ∀ (ls : Array Slot), lv_has ls 3 [(0, .ref (a 0)), (1, .int x1), (2, .int (nI i))] → W p l e (headSpec wsX0_crackedGlasses ({ frames := 0, cells := 0, slots := 0, locals := 0 } : Room)).room s m ([.ref (a 0)] : List Value).toArray below meth c s.heap [] 0 0 (MQ below (vp_Si (fun r9 => r9 = gh_cn (o 4) n)) ([.ref (a 0)] : List Value).toArray s 0 0 (fun _ => False)) (F0 m 4 ls [])) ?_ ?_
    · skip
      intro x1 e1 ls hl
      subst e1
      refine lv_iload_n hx hb dX0_crackedGlasses_4 rfl (lv_at hl 2 rfl) ?_
      refine lv_aload_n hx hb dX0_crackedGlasses_5 rfl (lv_at hl 0 rfl) ?_
      refine va_get (D := G.1) (ci := 0) (v := .int (o 10 0)) (C := RX0) (T := TX0) (N := 15) hx hb hts (fun w9 h9 => List.mem_cons_of_mem _ (List.mem_append_right _ h9)) hown hK hP 0 rfl rfl 10 (by decide) (hts (.fieldLink RX0 40 "GlassHarp$Orchestra" "glasses" "I") (List.mem_of_getElem? (i := 1) rfl)) (fun _ h9 => h9) rfl dX0_crackedGlasses_6 ?_
      refine gh_vv (y := nI n) (hn) ?_
      refine lv_icmp_ge (tgt := 30) hx hb dX0_crackedGlasses_9 (by decide) (fun c_1 => ?_) (fun c_1 => absurd (nI_le (Nat.le_refl _) (Nat.lt_of_le_of_lt hn16 (by decide))) c_1)
      refine lv_iload_n hx hb dX0_crackedGlasses_30 rfl (lv_at hl 1 rfl) ?_
      exact W.iret (v := gh_cn (o 4) n) hx hb hr (fun t9 ht hW => ⟨gh_cn (o 4) n, rfl, rfl, ht⟩) (fun q hq => absurd hq List.not_mem_nil) dX0_crackedGlasses_31
    · intro i hi_lo hi ih
      intro x1 e1 ls hl
      subst e1
      refine lv_iload_n hx hb dX0_crackedGlasses_4 rfl (lv_at hl 2 rfl) ?_
      refine lv_aload_n hx hb dX0_crackedGlasses_5 rfl (lv_at hl 0 rfl) ?_
      refine va_get (D := G.1) (ci := 0) (v := .int (o 10 0)) (C := RX0) (T := TX0) (N := 15) hx hb hts (fun w9 h9 => List.mem_cons_of_mem _ (List.mem_append_right _ h9)) hown hK hP 0 rfl rfl 10 (by decide) (hts (.fieldLink RX0 40 "GlassHarp$Orchestra" "glasses" "I") (List.mem_of_getElem? (i := 1) rfl)) (fun _ h9 => h9) rfl dX0_crackedGlasses_6 ?_
      refine gh_vv (y := nI n) (hn) ?_
      refine lv_icmp_ge (tgt := 30) hx hb dX0_crackedGlasses_9 (by decide) (fun c_2 => absurd c_2 (nI_ge hi (Nat.lt_of_le_of_lt hn16 (by decide)))) (fun c_2 => ?_)
      refine lv_aload_n hx hb dX0_crackedGlasses_12 rfl (lv_at hl 0 rfl) ?_
      refine va_get (D := G.1) (ci := 0) (v := .ref (a 4)) (C := RX0) (T := TX0) (N := 15) hx hb hts (fun w9 h9 => List.mem_cons_of_mem _ (List.mem_append_right _ h9)) hown hK hP 0 rfl rfl 4 (by decide) (hts (.fieldLink RX0 21 "GlassHarp$Orchestra" "cracked" "[Z") (List.mem_of_getElem? (i := 2) rfl)) (fun _ h9 => h9) rfl dX0_crackedGlasses_13 ?_
      refine lv_iload_n hx hb dX0_crackedGlasses_16 rfl (lv_at hl 2 rfl) ?_
      refine gh_za (f := o 4) hx hb hK hP 4 1 rfl rfl i (rfl) (by omega) (by decide) dX0_crackedGlasses_17 ?_
      refine lv_if_eq (tgt := 24) hx hb dX0_crackedGlasses_18 (by decide) (fun c_3 => ?_) (fun c_3 => ?_)
      · skip
        refine lv_iinc (v := nI (i + 1)) (lv' := [(2, .int (nI (i + 1))), (0, .ref (a 0)), (1, .int (gh_cn (o 4) i))]) hx hb dX0_crackedGlasses_24 hl (k := 2) rfl (nI_1 i) (by decide) rfl (fun ls hl => ?_)
        refine lv_goto (tgt := 4) hx hb dX0_crackedGlasses_27 (by decide) ?_
        exact ih (gh_cn (o 4) i) (by first | (simp only [gh_cn, c_2, c_3, ↓reduceIte, if_true, if_false]; done) | (simp only [gh_cn]; simp only [c_2, c_3, ↓reduceIte, if_true, if_false]; done) | (simp [gh_cn, c_2, c_3, ↓reduceIte, if_true, if_false]; done)) _ (lv_sub hl [1, 2, 0] rfl)
      · skip
        refine lv_iinc (v := gh_cn (o 4) i + 1) (lv' := [(1, .int (gh_cn (o 4) i + 1)), (0, .ref (a 0)), (2, .int (nI i))]) hx hb dX0_crackedGlasses_21 hl (k := 1) rfl (rfl) (by decide) rfl (fun ls hl => ?_)
        refine lv_iinc (v := nI (i + 1)) (lv' := [(2, .int (nI (i + 1))), (1, .int (gh_cn (o 4) i + 1)), (0, .ref (a 0))]) hx hb dX0_crackedGlasses_24 hl (k := 2) rfl (nI_1 i) (by decide) rfl (fun ls hl => ?_)
        refine lv_goto (tgt := 4) hx hb dX0_crackedGlasses_27 (by decide) ?_
        exact ih (gh_cn (o 4) i + 1) (by first | (simp only [gh_cn, c_2, c_3, ↓reduceIte, if_true, if_false]; done) | (simp only [gh_cn]; simp only [c_2, c_3, ↓reduceIte, if_true, if_false]; done) | (simp [gh_cn, c_2, c_3, ↓reduceIte, if_true, if_false]; done)) _ (lv_sub hl [2, 1, 0] rfl)
  exact J4 0 (by first | (simp only [gh_cn, ↓reduceIte, if_true, if_false]; done) | (simp only [gh_cn, ↓reduceIte, if_true, if_false]; rfl) | (simp [gh_cn, ↓reduceIte, if_true, if_false]; done)) _ (lv_sub hl [2, 1, 0] rfl)
set_option maxHeartbeats 4000000 in
set_option maxRecDepth 100000 in
theorem c_X0_glassesInRow (l : Launch) (G : gh_G) (a : Nat → Nat) (sc : Nat) (o : gh_B) (n : Nat) (r : Int32) (hn : o 10 0 = nI n) (hn16 : n ≤ 16) : Met l yX0_glassesInRow wsX0_glassesInRow ({ frames := 0, cells := 0, slots := 0, locals := 0 } : Room) (gh_r G [.ref (a 0), .int r] (wO G a sc o)) (vp_Si (fun r9 => r9 = gh_cr (o 1) r n)) 0 0 (fun _ => False) := by
  refine Met.ofW (cc := cX0_glassesInRow) (maxL := 4) (ret := (some .int)) (by decide) rfl ?_
  intro p e s m args below meth c s₁ B hml hv
  obtain ⟨rfl, hP, hE⟩ := hv
  have hx := B.exec
  have hb := B.bytes
  have hr := B.returns
  have hts := atoms_spec (ws := wsX0_glassesInRow) B.pre
  have hown : s.vm.findClass RX0 = some m.cls := findClass_of_methodNamed B.named
  have hlocks := B.notSynchronized
  have hK := hE.1
  have hl := lv_entry ([.ref (a 0), .int r]) (n := 4) (Nat.le_of_ble_eq_true rfl)
  rw [lg_entry_eq]
  generalize (lg_sl ([.ref (a 0), .int r]) ++ List.replicate (4 - (lg_sl ([.ref (a 0), .int r])).length) Slot.unset).toArray = ls at hl ⊢
  have hl : lv_has ls 4 [(0, .ref (a 0)), (1, .int r)] := hl
  refine lv_iconst (v := 0) hx hb dX0_glassesInRow_0 (by decide) ?_
  refine lv_istore_n (lv' := [(2, .int 0), (0, .ref (a 0)), (1, .int r)]) hx hb dX0_glassesInRow_1 rfl hl (by decide) rfl (fun ls hl => ?_)
  refine lv_iconst (v := 0) hx hb dX0_glassesInRow_2 (by decide) ?_
  refine lv_istore_n (lv' := [(3, .int 0), (2, .int 0), (0, .ref (a 0)), (1, .int r)]) hx hb dX0_glassesInRow_3 rfl hl (by decide) rfl (fun ls hl => ?_)
  have J4 : ∀ (x1 : Int32), (x1 = gh_cr (o 1) r 0) → ∀ (ls : Array Slot), lv_has ls 4 [(0, .ref (a 0)), (1, .int r), (2, .int x1), (3, .int (nI 0))] → W p l e (headSpec wsX0_glassesInRow ({ frames := 0, cells := 0, slots := 0, locals := 0 } : Room)).room s m ([.ref (a 0), .int r] : List Value).toArray below meth c s.heap [] 0 0 (MQ below (vp_Si (fun r9 => r9 = gh_cr (o 1) r n)) ([.ref (a 0), .int r] : List Value).toArray s 0 0 (fun _ => False)) (F0 m 4 ls []) := by
    refine gh_loop (n := n) (i0 := 0) (Nat.zero_le _) (P := fun i => ∀ (x1 : Int32), (x1 = gh_cr (o 1) r i) → ∀ (ls : Array Slot), lv_has ls 4 [(0, .ref (a 0)), (1, .int r), (2, .int x1), (3, .int (nI i))] → W p l e (headSpec wsX0_glassesInRow ({ frames := 0, cells := 0, slots := 0, locals := 0 } : Room)).room s m ([.ref (a 0), .int r] : List Value).toArray below meth c s.heap [] 0 0 (MQ below (vp_Si (fun r9 => r9 = gh_cr (o 1) r n)) ([.ref (a 0), .int r] : List Value).toArray s 0 0 (fun _ => False)) (F0 m 4 ls [])) ?_ ?_
    · skip
      intro x1 e1 ls hl
      subst e1
      refine lv_iload_n hx hb dX0_glassesInRow_4 rfl (lv_at hl 3 rfl) ?_
      refine lv_aload_n hx hb dX0_glassesInRow_5 rfl (lv_at hl 0 rfl) ?_
      refine va_get (D := G.1) (ci := 0) (v := .int (o 10 0)) (C := RX0) (T := TX0) (N := 15) hx hb hts (fun w9 h9 => List.mem_cons_of_mem _ (List.mem_append_right _ h9)) hown hK hP 0 rfl rfl 10 (by decide) (hts (.fieldLink RX0 40 "GlassHarp$Orchestra" "glasses" "I") (List.mem_of_getElem? (i := 1) rfl)) (fun _ h9 => h9) rfl dX0_glassesInRow_6 ?_
      refine gh_vv (y := nI n) (hn) ?_
      refine lv_icmp_ge (tgt := 31) hx hb dX0_glassesInRow_9 (by decide) (fun c_1 => ?_) (fun c_1 => absurd (nI_le (Nat.le_refl _) (Nat.lt_of_le_of_lt hn16 (by decide))) c_1)
      refine lv_iload_n hx hb dX0_glassesInRow_31 rfl (lv_at hl 2 rfl) ?_
      exact W.iret (v := gh_cr (o 1) r n) hx hb hr (fun t9 ht hW => ⟨gh_cr (o 1) r n, rfl, rfl, ht⟩) (fun q hq => absurd hq List.not_mem_nil) dX0_glassesInRow_32
    · intro i hi_lo hi ih
      intro x1 e1 ls hl
      subst e1
      refine lv_iload_n hx hb dX0_glassesInRow_4 rfl (lv_at hl 3 rfl) ?_
      refine lv_aload_n hx hb dX0_glassesInRow_5 rfl (lv_at hl 0 rfl) ?_
      refine va_get (D := G.1) (ci := 0) (v := .int (o 10 0)) (C := RX0) (T := TX0) (N := 15) hx hb hts (fun w9 h9 => List.mem_cons_of_mem _ (List.mem_append_right _ h9)) hown hK hP 0 rfl rfl 10 (by decide) (hts (.fieldLink RX0 40 "GlassHarp$Orchestra" "glasses" "I") (List.mem_of_getElem? (i := 1) rfl)) (fun _ h9 => h9) rfl dX0_glassesInRow_6 ?_
      refine gh_vv (y := nI n) (hn) ?_
      refine lv_icmp_ge (tgt := 31) hx hb dX0_glassesInRow_9 (by decide) (fun c_2 => absurd c_2 (nI_ge hi (Nat.lt_of_le_of_lt hn16 (by decide)))) (fun c_2 => ?_)
      refine lv_aload_n hx hb dX0_glassesInRow_12 rfl (lv_at hl 0 rfl) ?_
      refine va_get (D := G.1) (ci := 0) (v := .ref (a 1)) (C := RX0) (T := TX0) (N := 15) hx hb hts (fun w9 h9 => List.mem_cons_of_mem _ (List.mem_append_right _ h9)) hown hK hP 0 rfl rfl 1 (by decide) (hts (.fieldLink RX0 9 "GlassHarp$Orchestra" "rows" "[I") (List.mem_of_getElem? (i := 2) rfl)) (fun _ h9 => h9) rfl dX0_glassesInRow_13 ?_
      refine lv_iload_n hx hb dX0_glassesInRow_16 rfl (lv_at hl 3 rfl) ?_
      refine gh_ia (f := o 1) hx hb hK hP 1 0 rfl rfl i (rfl) (by omega) (by decide) dX0_glassesInRow_17 ?_
      refine lv_iload_n hx hb dX0_glassesInRow_18 rfl (lv_at hl 1 rfl) ?_
      refine lv_icmp_ne (tgt := 25) hx hb dX0_glassesInRow_19 (by decide) (fun c_3 => ?_) (fun c_3 => ?_)
      · skip
        refine lv_iinc (v := nI (i + 1)) (lv' := [(3, .int (nI (i + 1))), (0, .ref (a 0)), (1, .int r), (2, .int (gh_cr (o 1) r i))]) hx hb dX0_glassesInRow_25 hl (k := 3) rfl (nI_1 i) (by decide) rfl (fun ls hl => ?_)
        refine lv_goto (tgt := 4) hx hb dX0_glassesInRow_28 (by decide) ?_
        exact ih (gh_cr (o 1) r i) (by first | (simp only [gh_cr, c_2, c_3, ↓reduceIte, if_true, if_false]; done) | (simp only [gh_cr]; simp only [c_2, c_3, ↓reduceIte, if_true, if_false]; done) | (simp [gh_cr, c_2, c_3, ↓reduceIte, if_true, if_false]; done)) _ (lv_sub hl [1, 2, 3, 0] rfl)
      · skip
        refine lv_iinc (v := gh_cr (o 1) r i + 1) (lv' := [(2, .int (gh_cr (o 1) r i + 1)), (0, .ref (a 0)), (1, .int r), (3, .int (nI i))]) hx hb dX0_glassesInRow_22 hl (k := 2) rfl (rfl) (by decide) rfl (fun ls hl => ?_)
        refine lv_iinc (v := nI (i + 1)) (lv' := [(3, .int (nI (i + 1))), (2, .int (gh_cr (o 1) r i + 1)), (0, .ref (a 0)), (1, .int r)]) hx hb dX0_glassesInRow_25 hl (k := 3) rfl (nI_1 i) (by decide) rfl (fun ls hl => ?_)
        refine lv_goto (tgt := 4) hx hb dX0_glassesInRow_28 (by decide) ?_
        exact ih (gh_cr (o 1) r i + 1) (by first | (simp only [gh_cr, c_2, c_3, ↓reduceIte, if_true, if_false]; done) | (simp only [gh_cr]; simp only [c_2, c_3, ↓reduceIte, if_true, if_false]; done) | (simp [gh_cr, c_2, c_3, ↓reduceIte, if_true, if_false]; done)) _ (lv_sub hl [2, 3, 1, 0] rfl)
  exact J4 0 (by first | (simp only [gh_cr, ↓reduceIte, if_true, if_false]; done) | (simp only [gh_cr, ↓reduceIte, if_true, if_false]; rfl) | (simp [gh_cr, ↓reduceIte, if_true, if_false]; done)) _ (lv_sub hl [2, 3, 1, 0] rfl)
set_option maxHeartbeats 4000000 in
set_option maxRecDepth 100000 in
theorem c_X0_allAir (l : Launch) (G : gh_G) (a : Nat → Nat) (sc : Nat) (o : gh_B)  : Met l yX0_allAir wsX0_allAir ({ frames := 0, cells := 0, slots := 0, locals := 0 } : Room) (gh_r G [.ref (a 0)] (wO G a sc o)) (vp_Si (fun r9 => r9 = gh_sm (o 8) 4)) 0 0 (fun _ => False) := by
  refine Met.ofW (cc := cX0_allAir) (maxL := 3) (ret := (some .int)) (by decide) rfl ?_
  intro p e s m args below meth c s₁ B hml hv
  obtain ⟨rfl, hP, hE⟩ := hv
  have hx := B.exec
  have hb := B.bytes
  have hr := B.returns
  have hts := atoms_spec (ws := wsX0_allAir) B.pre
  have hown : s.vm.findClass RX0 = some m.cls := findClass_of_methodNamed B.named
  have hlocks := B.notSynchronized
  have hK := hE.1
  have hl := lv_entry ([.ref (a 0)]) (n := 3) (Nat.le_of_ble_eq_true rfl)
  rw [lg_entry_eq]
  generalize (lg_sl ([.ref (a 0)]) ++ List.replicate (3 - (lg_sl ([.ref (a 0)])).length) Slot.unset).toArray = ls at hl ⊢
  have hl : lv_has ls 3 [(0, .ref (a 0))] := hl
  refine lv_iconst (v := 0) hx hb dX0_allAir_0 (by decide) ?_
  refine lv_istore_n (lv' := [(1, .int 0), (0, .ref (a 0))]) hx hb dX0_allAir_1 rfl hl (by decide) rfl (fun ls hl => ?_)
  refine lv_iconst (v := 0) hx hb dX0_allAir_2 (by decide) ?_
  refine lv_istore_n (lv' := [(2, .int 0), (1, .int 0), (0, .ref (a 0))]) hx hb dX0_allAir_3 rfl hl (by decide) rfl (fun ls hl => ?_)
  have J4 : ∀ (x1 : Int32), (x1 = gh_sm (o 8) 0) → ∀ (ls : Array Slot), lv_has ls 3 [(0, .ref (a 0)), (1, .int x1), (2, .int (nI 0))] → W p l e (headSpec wsX0_allAir ({ frames := 0, cells := 0, slots := 0, locals := 0 } : Room)).room s m ([.ref (a 0)] : List Value).toArray below meth c s.heap [] 0 0 (MQ below (vp_Si (fun r9 => r9 = gh_sm (o 8) 4)) ([.ref (a 0)] : List Value).toArray s 0 0 (fun _ => False)) (F0 m 4 ls []) := by
    refine gh_loop (n := 4) (i0 := 0) (Nat.zero_le _) (P := fun i => ∀ (x1 : Int32), (x1 = gh_sm (o 8) i) → ∀ (ls : Array Slot), lv_has ls 3 [(0, .ref (a 0)), (1, .int x1), (2, .int (nI i))] → W p l e (headSpec wsX0_allAir ({ frames := 0, cells := 0, slots := 0, locals := 0 } : Room)).room s m ([.ref (a 0)] : List Value).toArray below meth c s.heap [] 0 0 (MQ below (vp_Si (fun r9 => r9 = gh_sm (o 8) 4)) ([.ref (a 0)] : List Value).toArray s 0 0 (fun _ => False)) (F0 m 4 ls [])) ?_ ?_
    · skip
      intro x1 e1 ls hl
      subst e1
      refine lv_iload_n hx hb dX0_allAir_4 rfl (lv_at hl 2 rfl) ?_
      refine lv_iconst (v := 4) hx hb dX0_allAir_5 (by decide) ?_
      refine lv_icmp_ge (tgt := 24) hx hb dX0_allAir_6 (by decide) (fun c_1 => ?_) (fun c_1 => absurd (nI_le (Nat.le_refl _) (by decide)) c_1)
      refine lv_iload_n hx hb dX0_allAir_24 rfl (lv_at hl 1 rfl) ?_
      exact W.iret (v := gh_sm (o 8) 4) hx hb hr (fun t9 ht hW => ⟨gh_sm (o 8) 4, rfl, rfl, ht⟩) (fun q hq => absurd hq List.not_mem_nil) dX0_allAir_25
    · intro i hi_lo hi ih
      intro x1 e1 ls hl
      subst e1
      refine lv_iload_n hx hb dX0_allAir_4 rfl (lv_at hl 2 rfl) ?_
      refine lv_iconst (v := 4) hx hb dX0_allAir_5 (by decide) ?_
      refine lv_icmp_ge (tgt := 24) hx hb dX0_allAir_6 (by decide) (fun c_2 => absurd c_2 (nI_ge hi (by decide))) (fun c_2 => ?_)
      refine lv_iload_n hx hb dX0_allAir_9 rfl (lv_at hl 1 rfl) ?_
      refine lv_aload_n hx hb dX0_allAir_10 rfl (lv_at hl 0 rfl) ?_
      refine va_get (D := G.1) (ci := 0) (v := .ref (a 8)) (C := RX0) (T := TX0) (N := 15) hx hb hts (fun w9 h9 => List.mem_cons_of_mem _ (List.mem_append_right _ h9)) hown hK hP 0 rfl rfl 8 (by decide) (hts (.fieldLink RX0 34 "GlassHarp$Orchestra" "air" "[I") (List.mem_of_getElem? (i := 1) rfl)) (fun _ h9 => h9) rfl dX0_allAir_11 ?_
      refine lv_iload_n hx hb dX0_allAir_14 rfl (lv_at hl 2 rfl) ?_
      refine gh_ia (f := o 8) hx hb hK hP 8 0 rfl rfl i (rfl) (by omega) (by decide) dX0_allAir_15 ?_
      refine lv_iadd hx hb dX0_allAir_16 ?_
      refine lv_istore_n (lv' := [(1, .int ((gh_sm (o 8) i) + (o 8 i))), (0, .ref (a 0)), (2, .int (nI i))]) hx hb dX0_allAir_17 rfl hl (by decide) rfl (fun ls hl => ?_)
      refine lv_iinc (v := nI (i + 1)) (lv' := [(2, .int (nI (i + 1))), (1, .int ((gh_sm (o 8) i) + (o 8 i))), (0, .ref (a 0))]) hx hb dX0_allAir_18 hl (k := 2) rfl (nI_1 i) (by decide) rfl (fun ls hl => ?_)
      refine lv_goto (tgt := 4) hx hb dX0_allAir_21 (by decide) ?_
      exact ih ((gh_sm (o 8) i) + (o 8 i)) (by first | (simp only [gh_sm, c_2, ↓reduceIte, if_true, if_false]; done) | (simp only [gh_sm]; simp only [c_2, ↓reduceIte, if_true, if_false]; done) | (simp [gh_sm, c_2, ↓reduceIte, if_true, if_false]; done)) _ (lv_sub hl [2, 1, 0] rfl)
  exact J4 0 (by first | (simp only [gh_sm, ↓reduceIte, if_true, if_false]; done) | (simp only [gh_sm, ↓reduceIte, if_true, if_false]; rfl) | (simp [gh_sm, ↓reduceIte, if_true, if_false]; done)) _ (lv_sub hl [2, 1, 0] rfl)
set_option maxHeartbeats 4000000 in
set_option maxRecDepth 100000 in
theorem c_X0_beatAgainst (l : Launch) (G : gh_G) (a : Nat → Nat) (sc : Nat) (o : gh_B) (n : Nat) (g : Nat) (j : Nat) (hn : o 10 0 = nI n) (hn16 : n ≤ 16) (hg : g < n) (hj : j < n) : Met l yX0_beatAgainst wsX0_beatAgainst ({ frames := 2, cells := 0, slots := 0, locals := 44 } : Room) (gh_r G [.ref (a 0), .int (nI g), .int (nI j)] (wO G a sc o)) (vp_Si (fun r9 => r9 = gh_ba o g j)) 0 0 (fun _ => False) := by
  refine Met.ofW (cc := cX0_beatAgainst) (maxL := 3) (ret := (some .boolean)) (by decide) rfl ?_
  intro p e s m args below meth c s₁ B hml hv
  obtain ⟨rfl, hP, hE⟩ := hv
  have hx := B.exec
  have hb := B.bytes
  have hr := B.returns
  have hts := atoms_spec (ws := wsX0_beatAgainst) B.pre
  have hown : s.vm.findClass RX0 = some m.cls := findClass_of_methodNamed B.named
  have hlocks := B.notSynchronized
  have hK := hE.1
  have hl := lv_entry ([.ref (a 0), .int (nI g), .int (nI j)]) (n := 3) (Nat.le_of_ble_eq_true rfl)
  rw [lg_entry_eq]
  generalize (lg_sl ([.ref (a 0), .int (nI g), .int (nI j)]) ++ List.replicate (3 - (lg_sl ([.ref (a 0), .int (nI g), .int (nI j)])).length) Slot.unset).toArray = ls at hl ⊢
  have hl : lv_has ls 3 [(0, .ref (a 0)), (1, .int (nI g)), (2, .int (nI j))] := hl
  refine lv_aload_n hx hb dX0_beatAgainst_0 rfl (lv_at hl 0 rfl) ?_
  refine lv_iload_n hx hb dX0_beatAgainst_1 rfl (lv_at hl 1 rfl) ?_
  refine gh_ci (va_runV (As := [.int (nI g)]) (rest := []) ⟨hx, hb, hml, hown, hts⟩ (c_X0_hasGlass l G a sc o (nI g)) (cwV 1 hts gX0_beatAgainst_X0_hasGlass rfl rfl rfl ⟨rfl, hdS_X0_hasGlass⟩ ⟨Nat.le_of_ble_eq_true rfl, Nat.le_of_ble_eq_true rfl⟩) (gh_rV hE hP (ci := 0) (q0 := 0) rfl rfl) rfl rfl hl.1 rfl (lv_room (Nat.le_of_ble_eq_true rfl)) dX0_beatAgainst_2 ⟨Nat.le_of_ble_eq_true rfl, Nat.le_of_ble_eq_true rfl⟩) ?_
  refine gh_vv (y := 1) (gh_rg_1 hn (Nat.lt_of_le_of_lt hn16 (by decide)) hg) ?_
  refine lv_if_eq (tgt := 36) hx hb dX0_beatAgainst_5 (by decide) (fun c_1 => absurd c_1 (by decide)) (fun c_1 => ?_)
  refine lv_aload_n hx hb dX0_beatAgainst_8 rfl (lv_at hl 0 rfl) ?_
  refine lv_iload_n hx hb dX0_beatAgainst_9 rfl (lv_at hl 2 rfl) ?_
  refine gh_ci (va_runV (As := [.int (nI j)]) (rest := []) ⟨hx, hb, hml, hown, hts⟩ (c_X0_hasGlass l G a sc o (nI j)) (cwV 1 hts gX0_beatAgainst_X0_hasGlass rfl rfl rfl ⟨rfl, hdS_X0_hasGlass⟩ ⟨Nat.le_of_ble_eq_true rfl, Nat.le_of_ble_eq_true rfl⟩) (gh_rV hE hP (ci := 0) (q0 := 0) rfl rfl) rfl rfl hl.1 rfl (lv_room (Nat.le_of_ble_eq_true rfl)) dX0_beatAgainst_10 ⟨Nat.le_of_ble_eq_true rfl, Nat.le_of_ble_eq_true rfl⟩) ?_
  refine gh_vv (y := 1) (gh_rg_1 hn (Nat.lt_of_le_of_lt hn16 (by decide)) hj) ?_
  refine lv_if_eq (tgt := 36) hx hb dX0_beatAgainst_13 (by decide) (fun c_2 => absurd c_2 (by decide)) (fun c_2 => ?_)
  refine lv_aload_n hx hb dX0_beatAgainst_16 rfl (lv_at hl 0 rfl) ?_
  refine va_get (D := G.1) (ci := 0) (v := .ref (a 5)) (C := RX0) (T := TX0) (N := 15) hx hb hts (fun w9 h9 => List.mem_cons_of_mem _ (List.mem_append_right _ h9)) hown hK hP 0 rfl rfl 5 (by decide) (hts (.fieldLink RX0 25 "GlassHarp$Orchestra" "rings" "[I") (List.mem_of_getElem? (i := 1) rfl)) (fun _ h9 => h9) rfl dX0_beatAgainst_17 ?_
  refine lv_iload_n hx hb dX0_beatAgainst_20 rfl (lv_at hl 1 rfl) ?_
  refine gh_ia (f := o 5) hx hb hK hP 5 0 rfl rfl g (rfl) (by omega) (by decide) dX0_beatAgainst_21 ?_
  refine lv_iconst (v := 1) hx hb dX0_beatAgainst_22 (by decide) ?_
  refine lv_icmp_lt (tgt := 36) hx hb dX0_beatAgainst_23 (by decide) (fun c_3 => ?_) (fun c_3 => ?_)
  · skip
    refine lv_iconst (v := 0) hx hb dX0_beatAgainst_36 (by decide) ?_
    exact W.zret (v := 0) hx hb hr (by decide) (fun t9 ht hW => ⟨0, rfl, by first | (simp only [gh_ba, c_1, c_2, c_3, ↓reduceIte, if_true, if_false]; done) | (simp only [gh_ba]; simp only [c_1, c_2, c_3, ↓reduceIte, if_true, if_false]; done) | (simp [gh_ba, c_1, c_2, c_3, ↓reduceIte, if_true, if_false]; done), ht⟩) (fun q hq => absurd hq List.not_mem_nil) dX0_beatAgainst_37
  · skip
    refine lv_aload_n hx hb dX0_beatAgainst_26 rfl (lv_at hl 0 rfl) ?_
    refine va_get (D := G.1) (ci := 0) (v := .ref (a 5)) (C := RX0) (T := TX0) (N := 15) hx hb hts (fun w9 h9 => List.mem_cons_of_mem _ (List.mem_append_right _ h9)) hown hK hP 0 rfl rfl 5 (by decide) (hts (.fieldLink RX0 25 "GlassHarp$Orchestra" "rings" "[I") (List.mem_of_getElem? (i := 1) rfl)) (fun _ h9 => h9) rfl dX0_beatAgainst_27 ?_
    refine lv_iload_n hx hb dX0_beatAgainst_30 rfl (lv_at hl 2 rfl) ?_
    refine gh_ia (f := o 5) hx hb hK hP 5 0 rfl rfl j (rfl) (by omega) (by decide) dX0_beatAgainst_31 ?_
    refine lv_iconst (v := 1) hx hb dX0_beatAgainst_32 (by decide) ?_
    refine lv_icmp_ge (tgt := 38) hx hb dX0_beatAgainst_33 (by decide) (fun c_4 => ?_) (fun c_4 => ?_)
    · skip
      refine lv_aload_n hx hb dX0_beatAgainst_38 rfl (lv_at hl 0 rfl) ?_
      refine lv_iload_n hx hb dX0_beatAgainst_39 rfl (lv_at hl 1 rfl) ?_
      refine gh_ci (va_runV (As := [.int (nI g)]) (rest := []) ⟨hx, hb, hml, hown, hts⟩ (c_X0_toneOf l G a sc o n g (hn) (hn16) (hg)) (cwV 1 hts gX0_beatAgainst_X0_toneOf rfl rfl rfl ⟨rfl, hdS_X0_toneOf⟩ ⟨Nat.le_of_ble_eq_true rfl, Nat.le_of_ble_eq_true rfl⟩) (gh_rV hE hP (ci := 0) (q0 := 0) rfl rfl) rfl rfl hl.1 rfl (lv_room (Nat.le_of_ble_eq_true rfl)) dX0_beatAgainst_40 ⟨Nat.le_of_ble_eq_true rfl, Nat.le_of_ble_eq_true rfl⟩) ?_
      refine lv_aload_n hx hb dX0_beatAgainst_43 rfl (lv_at hl 0 rfl) ?_
      refine lv_iload_n hx hb dX0_beatAgainst_44 rfl (lv_at hl 2 rfl) ?_
      refine gh_ci (va_runV (As := [.int (nI j)]) (rest := [.int (gh_tn o g)]) ⟨hx, hb, hml, hown, hts⟩ (c_X0_toneOf l G a sc o n j (hn) (hn16) (hj)) (cwV 1 hts gX0_beatAgainst_X0_toneOf rfl rfl rfl ⟨rfl, hdS_X0_toneOf⟩ ⟨Nat.le_of_ble_eq_true rfl, Nat.le_of_ble_eq_true rfl⟩) (gh_rV hE hP (ci := 0) (q0 := 0) rfl rfl) rfl rfl hl.1 rfl (lv_room (Nat.le_of_ble_eq_true rfl)) dX0_beatAgainst_45 ⟨Nat.le_of_ble_eq_true rfl, Nat.le_of_ble_eq_true rfl⟩) ?_
      refine gh_ci (va_runSN (As := [.int (gh_tn o g), .int (gh_tn o j)]) (rest := []) ⟨hx, hb, hml, hown, hts⟩ (c_X2_distance l G (gh_tn o g) (gh_tn o j)) ⟨va_cnB 2 hts gX0_beatAgainst_X2_distance_n94 rfl rfl rfl (hE.2.1 (RX0, 94, yX2_distance, RX2) (List.mem_of_getElem? (i := 5) rfl)) (hts (.initialized RX2) (List.mem_of_getElem? (i := 25) rfl)) hdS_X2_distance ⟨Nat.le_of_ble_eq_true rfl, Nat.le_of_ble_eq_true rfl⟩, (hts (.static yX2_distance) (List.mem_of_getElem? (i := 24) rfl)), trivial⟩ (gh_rS hE (fun k q h => by simp at h)) rfl rfl hl.1 rfl (lv_room (Nat.le_of_ble_eq_true rfl)) dX0_beatAgainst_48 ⟨Nat.le_of_ble_eq_true rfl, Nat.le_of_ble_eq_true rfl⟩) ?_
      refine lv_iconst (v := 1) hx hb dX0_beatAgainst_51 (by decide) ?_
      refine lv_iconst (v := 2) hx hb dX0_beatAgainst_52 (by decide) ?_
      refine gh_ci (va_runSN (As := [.int (gh_ds (gh_tn o g) (gh_tn o j)), .int 1, .int 2]) (rest := []) ⟨hx, hb, hml, hown, hts⟩ (c_X2_isWithin l G (gh_ds (gh_tn o g) (gh_tn o j)) 1 2) ⟨va_cnB 3 hts gX0_beatAgainst_X2_isWithin_n60 rfl rfl rfl (hE.2.1 (RX0, 60, yX2_isWithin, RX2) (List.mem_of_getElem? (i := 6) rfl)) (hts (.initialized RX2) (List.mem_of_getElem? (i := 25) rfl)) hdS_X2_isWithin ⟨Nat.le_of_ble_eq_true rfl, Nat.le_of_ble_eq_true rfl⟩, (hts (.static yX2_isWithin) (List.mem_of_getElem? (i := 27) rfl)), trivial⟩ (gh_rS hE (fun k q h => by simp at h)) rfl rfl hl.1 rfl (lv_room (Nat.le_of_ble_eq_true rfl)) dX0_beatAgainst_53 ⟨Nat.le_of_ble_eq_true rfl, Nat.le_of_ble_eq_true rfl⟩) ?_
      exact W.zret (v := gh_iw (gh_ds (gh_tn o g) (gh_tn o j)) 1 2) hx hb hr (gh_iwb _ _ _) (fun t9 ht hW => ⟨gh_iw (gh_ds (gh_tn o g) (gh_tn o j)) 1 2, rfl, by first | (simp only [gh_ba, c_1, c_2, c_3, c_4, ↓reduceIte, if_true, if_false]; done) | (simp only [gh_ba]; simp only [c_1, c_2, c_3, c_4, ↓reduceIte, if_true, if_false]; done) | (simp [gh_ba, c_1, c_2, c_3, c_4, ↓reduceIte, if_true, if_false]; done), ht⟩) (fun q hq => absurd hq List.not_mem_nil) dX0_beatAgainst_56
    · skip
      refine lv_iconst (v := 0) hx hb dX0_beatAgainst_36 (by decide) ?_
      exact W.zret (v := 0) hx hb hr (by decide) (fun t9 ht hW => ⟨0, rfl, by first | (simp only [gh_ba, c_1, c_2, c_3, c_4, ↓reduceIte, if_true, if_false]; done) | (simp only [gh_ba]; simp only [c_1, c_2, c_3, c_4, ↓reduceIte, if_true, if_false]; done) | (simp [gh_ba, c_1, c_2, c_3, c_4, ↓reduceIte, if_true, if_false]; done), ht⟩) (fun q hq => absurd hq List.not_mem_nil) dX0_beatAgainst_37
set_option maxHeartbeats 4000000 in
set_option maxRecDepth 100000 in
theorem c_X0_glassesBeatingAgainst (l : Launch) (G : gh_G) (a : Nat → Nat) (sc : Nat) (o : gh_B) (n : Nat) (k : Nat) (hn : o 10 0 = nI n) (hn16 : n ≤ 16) (hk : k < n) : Met l yX0_glassesBeatingAgainst wsX0_glassesBeatingAgainst ({ frames := 3, cells := 0, slots := 0, locals := 66 } : Room) (gh_r G [.ref (a 0), .int (nI k)] (wO G a sc o)) (vp_Si (fun r9 => r9 = gh_cn (gh_ba o k) n)) 0 0 (fun _ => False) := by
  refine Met.ofW (cc := cX0_glassesBeatingAgainst) (maxL := 4) (ret := (some .int)) (by decide) rfl ?_
  intro p e s m args below meth c s₁ B hml hv
  obtain ⟨rfl, hP, hE⟩ := hv
  have hx := B.exec
  have hb := B.bytes
  have hr := B.returns
  have hts := atoms_spec (ws := wsX0_glassesBeatingAgainst) B.pre
  have hown : s.vm.findClass RX0 = some m.cls := findClass_of_methodNamed B.named
  have hlocks := B.notSynchronized
  have hK := hE.1
  have hl := lv_entry ([.ref (a 0), .int (nI k)]) (n := 4) (Nat.le_of_ble_eq_true rfl)
  rw [lg_entry_eq]
  generalize (lg_sl ([.ref (a 0), .int (nI k)]) ++ List.replicate (4 - (lg_sl ([.ref (a 0), .int (nI k)])).length) Slot.unset).toArray = ls at hl ⊢
  have hl : lv_has ls 4 [(0, .ref (a 0)), (1, .int (nI k))] := hl
  refine lv_iconst (v := 0) hx hb dX0_glassesBeatingAgainst_0 (by decide) ?_
  refine lv_istore_n (lv' := [(2, .int 0), (0, .ref (a 0)), (1, .int (nI k))]) hx hb dX0_glassesBeatingAgainst_1 rfl hl (by decide) rfl (fun ls hl => ?_)
  refine lv_iconst (v := 0) hx hb dX0_glassesBeatingAgainst_2 (by decide) ?_
  refine lv_istore_n (lv' := [(3, .int 0), (2, .int 0), (0, .ref (a 0)), (1, .int (nI k))]) hx hb dX0_glassesBeatingAgainst_3 rfl hl (by decide) rfl (fun ls hl => ?_)
  have J4 : ∀ (x1 : Int32), (x1 = gh_cn (gh_ba o k) 0) → ∀ (ls : Array Slot), lv_has ls 4 [(0, .ref (a 0)), (1, .int (nI k)), (2, .int x1), (3, .int (nI 0))] → W p l e (headSpec wsX0_glassesBeatingAgainst ({ frames := 3, cells := 0, slots := 0, locals := 66 } : Room)).room s m ([.ref (a 0), .int (nI k)] : List Value).toArray below meth c s.heap [] 0 0 (MQ below (vp_Si (fun r9 => r9 = gh_cn (gh_ba o k) n)) ([.ref (a 0), .int (nI k)] : List Value).toArray s 0 0 (fun _ => False)) (F0 m 4 ls []) := by
    refine gh_loop (n := n) (i0 := 0) (Nat.zero_le _) (P := fun i => ∀ (x1 : Int32), (x1 = gh_cn (gh_ba o k) i) → ∀ (ls : Array Slot), lv_has ls 4 [(0, .ref (a 0)), (1, .int (nI k)), (2, .int x1), (3, .int (nI i))] → W p l e (headSpec wsX0_glassesBeatingAgainst ({ frames := 3, cells := 0, slots := 0, locals := 66 } : Room)).room s m ([.ref (a 0), .int (nI k)] : List Value).toArray below meth c s.heap [] 0 0 (MQ below (vp_Si (fun r9 => r9 = gh_cn (gh_ba o k) n)) ([.ref (a 0), .int (nI k)] : List Value).toArray s 0 0 (fun _ => False)) (F0 m 4 ls [])) ?_ ?_
    · skip
      intro x1 e1 ls hl
      subst e1
      refine lv_iload_n hx hb dX0_glassesBeatingAgainst_4 rfl (lv_at hl 3 rfl) ?_
      refine lv_aload_n hx hb dX0_glassesBeatingAgainst_5 rfl (lv_at hl 0 rfl) ?_
      refine va_get (D := G.1) (ci := 0) (v := .int (o 10 0)) (C := RX0) (T := TX0) (N := 15) hx hb hts (fun w9 h9 => List.mem_cons_of_mem _ (List.mem_append_right _ h9)) hown hK hP 0 rfl rfl 10 (by decide) (hts (.fieldLink RX0 40 "GlassHarp$Orchestra" "glasses" "I") (List.mem_of_getElem? (i := 1) rfl)) (fun _ h9 => h9) rfl dX0_glassesBeatingAgainst_6 ?_
      refine gh_vv (y := nI n) (hn) ?_
      refine lv_icmp_ge (tgt := 30) hx hb dX0_glassesBeatingAgainst_9 (by decide) (fun c_1 => ?_) (fun c_1 => absurd (nI_le (Nat.le_refl _) (Nat.lt_of_le_of_lt hn16 (by decide))) c_1)
      refine lv_iload_n hx hb dX0_glassesBeatingAgainst_30 rfl (lv_at hl 2 rfl) ?_
      exact W.iret (v := gh_cn (gh_ba o k) n) hx hb hr (fun t9 ht hW => ⟨gh_cn (gh_ba o k) n, rfl, rfl, ht⟩) (fun q hq => absurd hq List.not_mem_nil) dX0_glassesBeatingAgainst_31
    · intro i hi_lo hi ih
      intro x1 e1 ls hl
      subst e1
      refine lv_iload_n hx hb dX0_glassesBeatingAgainst_4 rfl (lv_at hl 3 rfl) ?_
      refine lv_aload_n hx hb dX0_glassesBeatingAgainst_5 rfl (lv_at hl 0 rfl) ?_
      refine va_get (D := G.1) (ci := 0) (v := .int (o 10 0)) (C := RX0) (T := TX0) (N := 15) hx hb hts (fun w9 h9 => List.mem_cons_of_mem _ (List.mem_append_right _ h9)) hown hK hP 0 rfl rfl 10 (by decide) (hts (.fieldLink RX0 40 "GlassHarp$Orchestra" "glasses" "I") (List.mem_of_getElem? (i := 1) rfl)) (fun _ h9 => h9) rfl dX0_glassesBeatingAgainst_6 ?_
      refine gh_vv (y := nI n) (hn) ?_
      refine lv_icmp_ge (tgt := 30) hx hb dX0_glassesBeatingAgainst_9 (by decide) (fun c_2 => absurd c_2 (nI_ge hi (Nat.lt_of_le_of_lt hn16 (by decide)))) (fun c_2 => ?_)
      refine lv_aload_n hx hb dX0_glassesBeatingAgainst_12 rfl (lv_at hl 0 rfl) ?_
      refine lv_iload_n hx hb dX0_glassesBeatingAgainst_13 rfl (lv_at hl 1 rfl) ?_
      refine lv_iload_n hx hb dX0_glassesBeatingAgainst_14 rfl (lv_at hl 3 rfl) ?_
      refine gh_ci (va_runV (As := [.int (nI k), .int (nI i)]) (rest := []) ⟨hx, hb, hml, hown, hts⟩ (c_X0_beatAgainst l G a sc o n k i (hn) (hn16) (hk) (hi)) (cwV 2 hts gX0_glassesBeatingAgainst_X0_beatAgainst rfl rfl rfl ⟨rfl, hdS_X0_beatAgainst⟩ ⟨Nat.le_of_ble_eq_true rfl, Nat.le_of_ble_eq_true rfl⟩) (gh_rV hE hP (ci := 0) (q0 := 0) rfl rfl) rfl rfl hl.1 rfl (lv_room (Nat.le_of_ble_eq_true rfl)) dX0_glassesBeatingAgainst_15 ⟨Nat.le_of_ble_eq_true rfl, Nat.le_of_ble_eq_true rfl⟩) ?_
      refine lv_if_eq (tgt := 24) hx hb dX0_glassesBeatingAgainst_18 (by decide) (fun c_3 => ?_) (fun c_3 => ?_)
      · skip
        refine lv_iinc (v := nI (i + 1)) (lv' := [(3, .int (nI (i + 1))), (0, .ref (a 0)), (1, .int (nI k)), (2, .int (gh_cn (gh_ba o k) i))]) hx hb dX0_glassesBeatingAgainst_24 hl (k := 3) rfl (nI_1 i) (by decide) rfl (fun ls hl => ?_)
        refine lv_goto (tgt := 4) hx hb dX0_glassesBeatingAgainst_27 (by decide) ?_
        exact ih (gh_cn (gh_ba o k) i) (by first | (simp only [gh_cn, c_2, c_3, ↓reduceIte, if_true, if_false]; done) | (simp only [gh_cn]; simp only [c_2, c_3, ↓reduceIte, if_true, if_false]; done) | (simp [gh_cn, c_2, c_3, ↓reduceIte, if_true, if_false]; done)) _ (lv_sub hl [1, 2, 3, 0] rfl)
      · skip
        refine lv_iinc (v := gh_cn (gh_ba o k) i + 1) (lv' := [(2, .int (gh_cn (gh_ba o k) i + 1)), (0, .ref (a 0)), (1, .int (nI k)), (3, .int (nI i))]) hx hb dX0_glassesBeatingAgainst_21 hl (k := 2) rfl (rfl) (by decide) rfl (fun ls hl => ?_)
        refine lv_iinc (v := nI (i + 1)) (lv' := [(3, .int (nI (i + 1))), (2, .int (gh_cn (gh_ba o k) i + 1)), (0, .ref (a 0)), (1, .int (nI k))]) hx hb dX0_glassesBeatingAgainst_24 hl (k := 3) rfl (nI_1 i) (by decide) rfl (fun ls hl => ?_)
        refine lv_goto (tgt := 4) hx hb dX0_glassesBeatingAgainst_27 (by decide) ?_
        exact ih (gh_cn (gh_ba o k) i + 1) (by first | (simp only [gh_cn, c_2, c_3, ↓reduceIte, if_true, if_false]; done) | (simp only [gh_cn]; simp only [c_2, c_3, ↓reduceIte, if_true, if_false]; done) | (simp [gh_cn, c_2, c_3, ↓reduceIte, if_true, if_false]; done)) _ (lv_sub hl [2, 3, 1, 0] rfl)
  exact J4 0 (by first | (simp only [gh_cn, ↓reduceIte, if_true, if_false]; done) | (simp only [gh_cn, ↓reduceIte, if_true, if_false]; rfl) | (simp [gh_cn, ↓reduceIte, if_true, if_false]; done)) _ (lv_sub hl [2, 3, 1, 0] rfl)
set_option maxHeartbeats 4000000 in
set_option maxRecDepth 100000 in
theorem c_X0_pairsBeating (l : Launch) (G : gh_G) (a : Nat → Nat) (sc : Nat) (o : gh_B) (n : Nat) (hn : o 10 0 = nI n) (hn16 : n ≤ 16) : Met l yX0_pairsBeating wsX0_pairsBeating ({ frames := 4, cells := 0, slots := 0, locals := 89 } : Room) (gh_r G [.ref (a 0)] (wO G a sc o)) (vp_Si (fun r9 => r9 = gh_sm (fun i => gh_cn (gh_ba o i) n) n / 2)) 0 0 (fun _ => False) := by
  refine Met.ofW (cc := cX0_pairsBeating) (maxL := 3) (ret := (some .int)) (by decide) rfl ?_
  intro p e s m args below meth c s₁ B hml hv
  obtain ⟨rfl, hP, hE⟩ := hv
  have hx := B.exec
  have hb := B.bytes
  have hr := B.returns
  have hts := atoms_spec (ws := wsX0_pairsBeating) B.pre
  have hown : s.vm.findClass RX0 = some m.cls := findClass_of_methodNamed B.named
  have hlocks := B.notSynchronized
  have hK := hE.1
  have hl := lv_entry ([.ref (a 0)]) (n := 3) (Nat.le_of_ble_eq_true rfl)
  rw [lg_entry_eq]
  generalize (lg_sl ([.ref (a 0)]) ++ List.replicate (3 - (lg_sl ([.ref (a 0)])).length) Slot.unset).toArray = ls at hl ⊢
  have hl : lv_has ls 3 [(0, .ref (a 0))] := hl
  refine lv_iconst (v := 0) hx hb dX0_pairsBeating_0 (by decide) ?_
  refine lv_istore_n (lv' := [(1, .int 0), (0, .ref (a 0))]) hx hb dX0_pairsBeating_1 rfl hl (by decide) rfl (fun ls hl => ?_)
  refine lv_iconst (v := 0) hx hb dX0_pairsBeating_2 (by decide) ?_
  refine lv_istore_n (lv' := [(2, .int 0), (1, .int 0), (0, .ref (a 0))]) hx hb dX0_pairsBeating_3 rfl hl (by decide) rfl (fun ls hl => ?_)
  have J4 : ∀ (x1 : Int32), (x1 = gh_sm (fun i => gh_cn (gh_ba o i) n) 0) → ∀ (ls : Array Slot), lv_has ls 3 [(0, .ref (a 0)), (1, .int x1), (2, .int (nI 0))] → W p l e (headSpec wsX0_pairsBeating ({ frames := 4, cells := 0, slots := 0, locals := 89 } : Room)).room s m ([.ref (a 0)] : List Value).toArray below meth c s.heap [] 0 0 (MQ below (vp_Si (fun r9 => r9 = gh_sm (fun i => gh_cn (gh_ba o i) n) n / 2)) ([.ref (a 0)] : List Value).toArray s 0 0 (fun _ => False)) (F0 m 4 ls []) := by
    refine gh_loop (n := n) (i0 := 0) (Nat.zero_le _) (P := fun i => ∀ (x1 : Int32), (x1 = gh_sm (fun i => gh_cn (gh_ba o i) n) i) → ∀ (ls : Array Slot), lv_has ls 3 [(0, .ref (a 0)), (1, .int x1), (2, .int (nI i))] → W p l e (headSpec wsX0_pairsBeating ({ frames := 4, cells := 0, slots := 0, locals := 89 } : Room)).room s m ([.ref (a 0)] : List Value).toArray below meth c s.heap [] 0 0 (MQ below (vp_Si (fun r9 => r9 = gh_sm (fun i => gh_cn (gh_ba o i) n) n / 2)) ([.ref (a 0)] : List Value).toArray s 0 0 (fun _ => False)) (F0 m 4 ls [])) ?_ ?_
    · skip
      intro x1 e1 ls hl
      subst e1
      refine lv_iload_n hx hb dX0_pairsBeating_4 rfl (lv_at hl 2 rfl) ?_
      refine lv_aload_n hx hb dX0_pairsBeating_5 rfl (lv_at hl 0 rfl) ?_
      refine va_get (D := G.1) (ci := 0) (v := .int (o 10 0)) (C := RX0) (T := TX0) (N := 15) hx hb hts (fun w9 h9 => List.mem_cons_of_mem _ (List.mem_append_right _ h9)) hown hK hP 0 rfl rfl 10 (by decide) (hts (.fieldLink RX0 40 "GlassHarp$Orchestra" "glasses" "I") (List.mem_of_getElem? (i := 1) rfl)) (fun _ h9 => h9) rfl dX0_pairsBeating_6 ?_
      refine gh_vv (y := nI n) (hn) ?_
      refine lv_icmp_ge (tgt := 26) hx hb dX0_pairsBeating_9 (by decide) (fun c_1 => ?_) (fun c_1 => absurd (nI_le (Nat.le_refl _) (Nat.lt_of_le_of_lt hn16 (by decide))) c_1)
      refine lv_iload_n hx hb dX0_pairsBeating_26 rfl (lv_at hl 1 rfl) ?_
      refine lv_iconst (v := 2) hx hb dX0_pairsBeating_27 (by decide) ?_
      refine lv_idiv hx hb dX0_pairsBeating_28 (by decide) ?_
      exact W.iret (v := (gh_sm (fun i => gh_cn (gh_ba o i) n) n) / 2) hx hb hr (fun t9 ht hW => ⟨(gh_sm (fun i => gh_cn (gh_ba o i) n) n) / 2, rfl, by first | (simp only [gh_sm, c_1, ↓reduceIte, if_true, if_false]; done) | (simp only [gh_sm]; simp only [c_1, ↓reduceIte, if_true, if_false]; done) | (simp [gh_sm, c_1, ↓reduceIte, if_true, if_false]; done), ht⟩) (fun q hq => absurd hq List.not_mem_nil) dX0_pairsBeating_29
    · intro i hi_lo hi ih
      intro x1 e1 ls hl
      subst e1
      refine lv_iload_n hx hb dX0_pairsBeating_4 rfl (lv_at hl 2 rfl) ?_
      refine lv_aload_n hx hb dX0_pairsBeating_5 rfl (lv_at hl 0 rfl) ?_
      refine va_get (D := G.1) (ci := 0) (v := .int (o 10 0)) (C := RX0) (T := TX0) (N := 15) hx hb hts (fun w9 h9 => List.mem_cons_of_mem _ (List.mem_append_right _ h9)) hown hK hP 0 rfl rfl 10 (by decide) (hts (.fieldLink RX0 40 "GlassHarp$Orchestra" "glasses" "I") (List.mem_of_getElem? (i := 1) rfl)) (fun _ h9 => h9) rfl dX0_pairsBeating_6 ?_
      refine gh_vv (y := nI n) (hn) ?_
      refine lv_icmp_ge (tgt := 26) hx hb dX0_pairsBeating_9 (by decide) (fun c_2 => absurd c_2 (nI_ge hi (Nat.lt_of_le_of_lt hn16 (by decide)))) (fun c_2 => ?_)
      refine lv_iload_n hx hb dX0_pairsBeating_12 rfl (lv_at hl 1 rfl) ?_
      refine lv_aload_n hx hb dX0_pairsBeating_13 rfl (lv_at hl 0 rfl) ?_
      refine lv_iload_n hx hb dX0_pairsBeating_14 rfl (lv_at hl 2 rfl) ?_
      refine gh_ci (va_runV (As := [.int (nI i)]) (rest := [.int (gh_sm (fun i => gh_cn (gh_ba o i) n) i)]) ⟨hx, hb, hml, hown, hts⟩ (c_X0_glassesBeatingAgainst l G a sc o n i (hn) (hn16) (hi)) (cwV 1 hts gX0_pairsBeating_X0_glassesBeatingAgainst rfl rfl rfl ⟨rfl, hdS_X0_glassesBeatingAgainst⟩ ⟨Nat.le_of_ble_eq_true rfl, Nat.le_of_ble_eq_true rfl⟩) (gh_rV hE hP (ci := 0) (q0 := 0) rfl rfl) rfl rfl hl.1 rfl (lv_room (Nat.le_of_ble_eq_true rfl)) dX0_pairsBeating_15 ⟨Nat.le_of_ble_eq_true rfl, Nat.le_of_ble_eq_true rfl⟩) ?_
      refine lv_iadd hx hb dX0_pairsBeating_18 ?_
      refine lv_istore_n (lv' := [(1, .int ((gh_sm (fun i => gh_cn (gh_ba o i) n) i) + (gh_cn (gh_ba o i) n))), (0, .ref (a 0)), (2, .int (nI i))]) hx hb dX0_pairsBeating_19 rfl hl (by decide) rfl (fun ls hl => ?_)
      refine lv_iinc (v := nI (i + 1)) (lv' := [(2, .int (nI (i + 1))), (1, .int ((gh_sm (fun i => gh_cn (gh_ba o i) n) i) + (gh_cn (gh_ba o i) n))), (0, .ref (a 0))]) hx hb dX0_pairsBeating_20 hl (k := 2) rfl (nI_1 i) (by decide) rfl (fun ls hl => ?_)
      refine lv_goto (tgt := 4) hx hb dX0_pairsBeating_23 (by decide) ?_
      exact ih ((gh_sm (fun i => gh_cn (gh_ba o i) n) i) + (gh_cn (gh_ba o i) n)) (by first | (simp only [gh_sm, c_2, ↓reduceIte, if_true, if_false]; done) | (simp only [gh_sm]; simp only [c_2, ↓reduceIte, if_true, if_false]; done) | (simp [gh_sm, c_2, ↓reduceIte, if_true, if_false]; done)) _ (lv_sub hl [2, 1, 0] rfl)
  exact J4 0 (by first | (simp only [gh_sm, ↓reduceIte, if_true, if_false]; done) | (simp only [gh_sm, ↓reduceIte, if_true, if_false]; rfl) | (simp [gh_sm, ↓reduceIte, if_true, if_false]; done)) _ (lv_sub hl [2, 1, 0] rfl)
set_option maxHeartbeats 4000000 in
set_option maxRecDepth 100000 in
theorem c_X0_hasAir (l : Launch) (G : gh_G) (a : Nat → Nat) (sc : Nat) (o : gh_B) (r : Int32) (f : Int32)  : Met l yX0_hasAir wsX0_hasAir ({ frames := 1, cells := 0, slots := 0, locals := 22 } : Room) (gh_r G [.ref (a 0), .int r, .int f] (wO G a sc o)) (vp_Si (fun r9 => r9 = gh_ha o r f)) 0 0 (fun _ => False) := by
  refine Met.ofW (cc := cX0_hasAir) (maxL := 3) (ret := (some .boolean)) (by decide) rfl ?_
  intro p e s m args below meth c s₁ B hml hv
  obtain ⟨rfl, hP, hE⟩ := hv
  have hx := B.exec
  have hb := B.bytes
  have hr := B.returns
  have hts := atoms_spec (ws := wsX0_hasAir) B.pre
  have hown : s.vm.findClass RX0 = some m.cls := findClass_of_methodNamed B.named
  have hlocks := B.notSynchronized
  have hK := hE.1
  have hl := lv_entry ([.ref (a 0), .int r, .int f]) (n := 3) (Nat.le_of_ble_eq_true rfl)
  rw [lg_entry_eq]
  generalize (lg_sl ([.ref (a 0), .int r, .int f]) ++ List.replicate (3 - (lg_sl ([.ref (a 0), .int r, .int f])).length) Slot.unset).toArray = ls at hl ⊢
  have hl : lv_has ls 3 [(0, .ref (a 0)), (1, .int r), (2, .int f)] := hl
  refine lv_iload_n hx hb dX0_hasAir_0 rfl (lv_at hl 1 rfl) ?_
  refine lv_iconst (v := 0) hx hb dX0_hasAir_1 (by decide) ?_
  refine lv_iconst (v := 3) hx hb dX0_hasAir_2 (by decide) ?_
  refine gh_ci (va_runSN (As := [.int r, .int 0, .int 3]) (rest := []) ⟨hx, hb, hml, hown, hts⟩ (c_X2_isWithin l G r 0 3) ⟨va_cnB 3 hts gX0_hasAir_X2_isWithin_n60 rfl rfl rfl (hE.2.1 (RX0, 60, yX2_isWithin, RX2) (List.mem_of_getElem? (i := 6) rfl)) (hts (.initialized RX2) (List.mem_of_getElem? (i := 3) rfl)) hdS_X2_isWithin ⟨Nat.le_of_ble_eq_true rfl, Nat.le_of_ble_eq_true rfl⟩, (hts (.static yX2_isWithin) (List.mem_of_getElem? (i := 2) rfl)), trivial⟩ (gh_rS hE (fun k q h => by simp at h)) rfl rfl hl.1 rfl (lv_room (Nat.le_of_ble_eq_true rfl)) dX0_hasAir_3 ⟨Nat.le_of_ble_eq_true rfl, Nat.le_of_ble_eq_true rfl⟩) ?_
  refine lv_if_eq (tgt := 23) hx hb dX0_hasAir_6 (by decide) (fun c_1 => ?_) (fun c_1 => ?_)
  · skip
    refine lv_iconst (v := 0) hx hb dX0_hasAir_23 (by decide) ?_
    exact W.zret (v := 0) hx hb hr (by decide) (fun t9 ht hW => ⟨0, rfl, by first | (simp only [gh_ha, c_1, ↓reduceIte, if_true, if_false]; done) | (simp only [gh_ha]; simp only [c_1, ↓reduceIte, if_true, if_false]; done) | (simp [gh_ha, c_1, ↓reduceIte, if_true, if_false]; done), ht⟩) (fun q hq => absurd hq List.not_mem_nil) dX0_hasAir_24
  · skip
    refine lv_aload_n hx hb dX0_hasAir_9 rfl (lv_at hl 0 rfl) ?_
    refine va_get (D := G.1) (ci := 0) (v := .ref (a 8)) (C := RX0) (T := TX0) (N := 15) hx hb hts (fun w9 h9 => List.mem_cons_of_mem _ (List.mem_append_right _ h9)) hown hK hP 0 rfl rfl 8 (by decide) (hts (.fieldLink RX0 34 "GlassHarp$Orchestra" "air" "[I") (List.mem_of_getElem? (i := 1) rfl)) (fun _ h9 => h9) rfl dX0_hasAir_10 ?_
    refine lv_iload_n hx hb dX0_hasAir_13 rfl (lv_at hl 1 rfl) ?_
    refine va_iald (f := o 8) hx hb hK hP 8 0 rfl rfl (gh_iw_in c_1) dX0_hasAir_14 ?_
    refine lv_iload_n hx hb dX0_hasAir_15 rfl (lv_at hl 2 rfl) ?_
    refine lv_icmp_lt (tgt := 23) hx hb dX0_hasAir_16 (by decide) (fun c_2 => ?_) (fun c_2 => ?_)
    · skip
      refine lv_iconst (v := 0) hx hb dX0_hasAir_23 (by decide) ?_
      exact W.zret (v := 0) hx hb hr (by decide) (fun t9 ht hW => ⟨0, rfl, by first | (simp only [gh_ha, c_1, c_2, ↓reduceIte, if_true, if_false]; done) | (simp only [gh_ha]; simp only [c_1, c_2, ↓reduceIte, if_true, if_false]; done) | (simp [gh_ha, c_1, c_2, ↓reduceIte, if_true, if_false]; done), ht⟩) (fun q hq => absurd hq List.not_mem_nil) dX0_hasAir_24
    · skip
      refine lv_iconst (v := 1) hx hb dX0_hasAir_19 (by decide) ?_
      refine lv_goto (tgt := 24) hx hb dX0_hasAir_20 (by decide) ?_
      exact W.zret (v := 1) hx hb hr (by decide) (fun t9 ht hW => ⟨1, rfl, by first | (simp only [gh_ha, c_1, c_2, ↓reduceIte, if_true, if_false]; done) | (simp only [gh_ha]; simp only [c_1, c_2, ↓reduceIte, if_true, if_false]; done) | (simp [gh_ha, c_1, c_2, ↓reduceIte, if_true, if_false]; done), ht⟩) (fun q hq => absurd hq List.not_mem_nil) dX0_hasAir_24
set_option maxHeartbeats 4000000 in
set_option maxRecDepth 100000 in
theorem c_X0_playerFor (l : Launch) (G : gh_G) (a : Nat → Nat) (sc : Nat) (o : gh_B) (n : Nat) (t : Int32) (f : Int32) (hn : o 10 0 = nI n) (hn16 : n ≤ 16) : Met l yX0_playerFor wsX0_playerFor ({ frames := 2, cells := 0, slots := 0, locals := 44 } : Room) (gh_r G [.ref (a 0), .int t, .int f] (wO G a sc o)) (vp_Si (fun r9 => r9 = (gh_pf o t f n).1)) 0 0 (fun _ => False) := by
  refine Met.ofW (cc := cX0_playerFor) (maxL := 7) (ret := (some .int)) (by decide) rfl ?_
  intro p e s m args below meth c s₁ B hml hv
  obtain ⟨rfl, hP, hE⟩ := hv
  have hx := B.exec
  have hb := B.bytes
  have hr := B.returns
  have hts := atoms_spec (ws := wsX0_playerFor) B.pre
  have hown : s.vm.findClass RX0 = some m.cls := findClass_of_methodNamed B.named
  have hlocks := B.notSynchronized
  have hK := hE.1
  have hl := lv_entry ([.ref (a 0), .int t, .int f]) (n := 7) (Nat.le_of_ble_eq_true rfl)
  rw [lg_entry_eq]
  generalize (lg_sl ([.ref (a 0), .int t, .int f]) ++ List.replicate (7 - (lg_sl ([.ref (a 0), .int t, .int f])).length) Slot.unset).toArray = ls at hl ⊢
  have hl : lv_has ls 7 [(0, .ref (a 0)), (1, .int t), (2, .int f)] := hl
  refine lv_iconst (v := (-1)) hx hb dX0_playerFor_0 (by decide) ?_
  refine lv_istore_n (lv' := [(3, .int (-1)), (0, .ref (a 0)), (1, .int t), (2, .int f)]) hx hb dX0_playerFor_1 rfl hl (by decide) rfl (fun ls hl => ?_)
  refine lv_bipush (v := 7) hx hb dX0_playerFor_2 (by decide) ?_
  refine lv_istore (lv' := [(4, .int 7), (3, .int (-1)), (0, .ref (a 0)), (1, .int t), (2, .int f)]) hx hb dX0_playerFor_4 hl (by decide) rfl (fun ls hl => ?_)
  refine lv_iconst (v := 0) hx hb dX0_playerFor_6 (by decide) ?_
  refine lv_istore (lv' := [(5, .int 0), (4, .int 7), (3, .int (-1)), (0, .ref (a 0)), (1, .int t), (2, .int f)]) hx hb dX0_playerFor_7 hl (by decide) rfl (fun ls hl => ?_)
  have J9 : ∀ (x3 : Int32) (x4 : Int32), (x3 = (gh_pf o t f 0).1) → (x4 = (gh_pf o t f 0).2) → ∀ (ls : Array Slot), lv_has ls 7 [(0, .ref (a 0)), (1, .int t), (2, .int f), (3, .int x3), (4, .int x4), (5, .int (nI 0))] → W p l e (headSpec wsX0_playerFor ({ frames := 2, cells := 0, slots := 0, locals := 44 } : Room)).room s m ([.ref (a 0), .int t, .int f] : List Value).toArray below meth c s.heap [] 0 0 (MQ below (vp_Si (fun r9 => r9 = (gh_pf o t f n).1)) ([.ref (a 0), .int t, .int f] : List Value).toArray s 0 0 (fun _ => False)) (F0 m 9 ls []) := by
    refine gh_loop (n := n) (i0 := 0) (Nat.zero_le _) (P := fun i => ∀ (x3 : Int32) (x4 : Int32), (x3 = (gh_pf o t f i).1) → (x4 = (gh_pf o t f i).2) → ∀ (ls : Array Slot), lv_has ls 7 [(0, .ref (a 0)), (1, .int t), (2, .int f), (3, .int x3), (4, .int x4), (5, .int (nI i))] → W p l e (headSpec wsX0_playerFor ({ frames := 2, cells := 0, slots := 0, locals := 44 } : Room)).room s m ([.ref (a 0), .int t, .int f] : List Value).toArray below meth c s.heap [] 0 0 (MQ below (vp_Si (fun r9 => r9 = (gh_pf o t f n).1)) ([.ref (a 0), .int t, .int f] : List Value).toArray s 0 0 (fun _ => False)) (F0 m 9 ls [])) ?_ ?_
    · skip
      intro x3 x4 e3 e4 ls hl
      subst e3
      subst e4
      refine lv_iload hx hb dX0_playerFor_9 (lv_at hl 5 rfl) ?_
      refine lv_aload_n hx hb dX0_playerFor_11 rfl (lv_at hl 0 rfl) ?_
      refine va_get (D := G.1) (ci := 0) (v := .int (o 10 0)) (C := RX0) (T := TX0) (N := 15) hx hb hts (fun w9 h9 => List.mem_cons_of_mem _ (List.mem_append_right _ h9)) hown hK hP 0 rfl rfl 10 (by decide) (hts (.fieldLink RX0 40 "GlassHarp$Orchestra" "glasses" "I") (List.mem_of_getElem? (i := 1) rfl)) (fun _ h9 => h9) rfl dX0_playerFor_12 ?_
      refine gh_vv (y := nI n) (hn) ?_
      refine lv_icmp_ge (tgt := 85) hx hb dX0_playerFor_15 (by decide) (fun c_1 => ?_) (fun c_1 => absurd (nI_le (Nat.le_refl _) (Nat.lt_of_le_of_lt hn16 (by decide))) c_1)
      refine lv_iload_n hx hb dX0_playerFor_85 rfl (lv_at hl 3 rfl) ?_
      exact W.iret (v := (gh_pf o t f n).1) hx hb hr (fun t9 ht hW => ⟨(gh_pf o t f n).1, rfl, rfl, ht⟩) (fun q hq => absurd hq List.not_mem_nil) dX0_playerFor_86
    · intro i hi_lo hi ih
      intro x3 x4 e3 e4 ls hl
      subst e3
      subst e4
      refine lv_iload hx hb dX0_playerFor_9 (lv_at hl 5 rfl) ?_
      refine lv_aload_n hx hb dX0_playerFor_11 rfl (lv_at hl 0 rfl) ?_
      refine va_get (D := G.1) (ci := 0) (v := .int (o 10 0)) (C := RX0) (T := TX0) (N := 15) hx hb hts (fun w9 h9 => List.mem_cons_of_mem _ (List.mem_append_right _ h9)) hown hK hP 0 rfl rfl 10 (by decide) (hts (.fieldLink RX0 40 "GlassHarp$Orchestra" "glasses" "I") (List.mem_of_getElem? (i := 1) rfl)) (fun _ h9 => h9) rfl dX0_playerFor_12 ?_
      refine gh_vv (y := nI n) (hn) ?_
      refine lv_icmp_ge (tgt := 85) hx hb dX0_playerFor_15 (by decide) (fun c_2 => absurd c_2 (nI_ge hi (Nat.lt_of_le_of_lt hn16 (by decide)))) (fun c_2 => ?_)
      refine lv_aload_n hx hb dX0_playerFor_18 rfl (lv_at hl 0 rfl) ?_
      refine va_get (D := G.1) (ci := 0) (v := .ref (a 4)) (C := RX0) (T := TX0) (N := 15) hx hb hts (fun w9 h9 => List.mem_cons_of_mem _ (List.mem_append_right _ h9)) hown hK hP 0 rfl rfl 4 (by decide) (hts (.fieldLink RX0 21 "GlassHarp$Orchestra" "cracked" "[Z") (List.mem_of_getElem? (i := 2) rfl)) (fun _ h9 => h9) rfl dX0_playerFor_19 ?_
      refine lv_iload hx hb dX0_playerFor_22 (lv_at hl 5 rfl) ?_
      refine gh_za (f := o 4) hx hb hK hP 4 1 rfl rfl i (rfl) (by omega) (by decide) dX0_playerFor_24 ?_
      refine lv_if_ne (tgt := 79) hx hb dX0_playerFor_25 (by decide) (fun c_3 => ?_) (fun c_3 => ?_)
      · skip
        refine lv_iinc (v := nI (i + 1)) (lv' := [(5, .int (nI (i + 1))), (0, .ref (a 0)), (1, .int t), (2, .int f), (3, .int ((gh_pf o t f i).1)), (4, .int ((gh_pf o t f i).2))]) hx hb dX0_playerFor_79 hl (k := 5) rfl (nI_1 i) (by decide) rfl (fun ls hl => ?_)
        refine lv_goto (tgt := 9) hx hb dX0_playerFor_82 (by decide) ?_
        exact ih ((gh_pf o t f i).1) ((gh_pf o t f i).2) (by first | (simp only [gh_pf, c_2, c_3, ↓reduceIte, if_true, if_false]; done) | (simp only [gh_pf]; simp only [c_2, c_3, ↓reduceIte, if_true, if_false]; done) | (simp [gh_pf, c_2, c_3, ↓reduceIte, if_true, if_false]; done)) (by first | (simp only [gh_pf, c_2, c_3, ↓reduceIte, if_true, if_false]; done) | (simp only [gh_pf]; simp only [c_2, c_3, ↓reduceIte, if_true, if_false]; done) | (simp [gh_pf, c_2, c_3, ↓reduceIte, if_true, if_false]; done)) _ (lv_sub hl [1, 2, 3, 4, 5, 0] rfl)
      · skip
        refine lv_aload_n hx hb dX0_playerFor_28 rfl (lv_at hl 0 rfl) ?_
        refine va_get (D := G.1) (ci := 0) (v := .ref (a 7)) (C := RX0) (T := TX0) (N := 15) hx hb hts (fun w9 h9 => List.mem_cons_of_mem _ (List.mem_append_right _ h9)) hown hK hP 0 rfl rfl 7 (by decide) (hts (.fieldLink RX0 31 "GlassHarp$Orchestra" "busy" "[Z") (List.mem_of_getElem? (i := 3) rfl)) (fun _ h9 => h9) rfl dX0_playerFor_29 ?_
        refine lv_iload hx hb dX0_playerFor_32 (lv_at hl 5 rfl) ?_
        refine gh_za (f := o 7) hx hb hK hP 7 1 rfl rfl i (rfl) (by omega) (by decide) dX0_playerFor_34 ?_
        refine lv_if_ne (tgt := 79) hx hb dX0_playerFor_35 (by decide) (fun c_4 => ?_) (fun c_4 => ?_)
        · skip
          refine lv_iinc (v := nI (i + 1)) (lv' := [(5, .int (nI (i + 1))), (0, .ref (a 0)), (1, .int t), (2, .int f), (3, .int ((gh_pf o t f i).1)), (4, .int ((gh_pf o t f i).2))]) hx hb dX0_playerFor_79 hl (k := 5) rfl (nI_1 i) (by decide) rfl (fun ls hl => ?_)
          refine lv_goto (tgt := 9) hx hb dX0_playerFor_82 (by decide) ?_
          exact ih ((gh_pf o t f i).1) ((gh_pf o t f i).2) (by first | (simp only [gh_pf, c_2, c_3, c_4, ↓reduceIte, if_true, if_false]; done) | (simp only [gh_pf]; simp only [c_2, c_3, c_4, ↓reduceIte, if_true, if_false]; done) | (simp [gh_pf, c_2, c_3, c_4, ↓reduceIte, if_true, if_false]; done)) (by first | (simp only [gh_pf, c_2, c_3, c_4, ↓reduceIte, if_true, if_false]; done) | (simp only [gh_pf]; simp only [c_2, c_3, c_4, ↓reduceIte, if_true, if_false]; done) | (simp [gh_pf, c_2, c_3, c_4, ↓reduceIte, if_true, if_false]; done)) _ (lv_sub hl [1, 2, 3, 4, 5, 0] rfl)
        · skip
          refine lv_aload_n hx hb dX0_playerFor_38 rfl (lv_at hl 0 rfl) ?_
          refine lv_aload_n hx hb dX0_playerFor_39 rfl (lv_at hl 0 rfl) ?_
          refine va_get (D := G.1) (ci := 0) (v := .ref (a 1)) (C := RX0) (T := TX0) (N := 15) hx hb hts (fun w9 h9 => List.mem_cons_of_mem _ (List.mem_append_right _ h9)) hown hK hP 0 rfl rfl 1 (by decide) (hts (.fieldLink RX0 9 "GlassHarp$Orchestra" "rows" "[I") (List.mem_of_getElem? (i := 4) rfl)) (fun _ h9 => h9) rfl dX0_playerFor_40 ?_
          refine lv_iload hx hb dX0_playerFor_43 (lv_at hl 5 rfl) ?_
          refine gh_ia (f := o 1) hx hb hK hP 1 0 rfl rfl i (rfl) (by omega) (by decide) dX0_playerFor_45 ?_
          refine lv_iload_n hx hb dX0_playerFor_46 rfl (lv_at hl 2 rfl) ?_
          refine gh_ci (va_runV (As := [.int (o 1 i), .int f]) (rest := []) ⟨hx, hb, hml, hown, hts⟩ (c_X0_hasAir l G a sc o (o 1 i) f) (cwV 2 hts gX0_playerFor_X0_hasAir rfl rfl rfl ⟨rfl, hdS_X0_hasAir⟩ ⟨Nat.le_of_ble_eq_true rfl, Nat.le_of_ble_eq_true rfl⟩) (gh_rV hE hP (ci := 0) (q0 := 0) rfl rfl) rfl rfl hl.1 rfl (lv_room (Nat.le_of_ble_eq_true rfl)) dX0_playerFor_47 ⟨Nat.le_of_ble_eq_true rfl, Nat.le_of_ble_eq_true rfl⟩) ?_
          refine lv_if_eq (tgt := 79) hx hb dX0_playerFor_50 (by decide) (fun c_5 => ?_) (fun c_5 => ?_)
          · skip
            refine lv_iinc (v := nI (i + 1)) (lv' := [(5, .int (nI (i + 1))), (0, .ref (a 0)), (1, .int t), (2, .int f), (3, .int ((gh_pf o t f i).1)), (4, .int ((gh_pf o t f i).2))]) hx hb dX0_playerFor_79 hl (k := 5) rfl (nI_1 i) (by decide) rfl (fun ls hl => ?_)
            refine lv_goto (tgt := 9) hx hb dX0_playerFor_82 (by decide) ?_
            exact ih ((gh_pf o t f i).1) ((gh_pf o t f i).2) (by first | (simp only [gh_pf, c_2, c_3, c_4, c_5, ↓reduceIte, if_true, if_false]; done) | (simp only [gh_pf]; simp only [c_2, c_3, c_4, c_5, ↓reduceIte, if_true, if_false]; done) | (simp [gh_pf, c_2, c_3, c_4, c_5, ↓reduceIte, if_true, if_false]; done)) (by first | (simp only [gh_pf, c_2, c_3, c_4, c_5, ↓reduceIte, if_true, if_false]; done) | (simp only [gh_pf]; simp only [c_2, c_3, c_4, c_5, ↓reduceIte, if_true, if_false]; done) | (simp [gh_pf, c_2, c_3, c_4, c_5, ↓reduceIte, if_true, if_false]; done)) _ (lv_sub hl [1, 2, 3, 4, 5, 0] rfl)
          · skip
            refine lv_aload_n hx hb dX0_playerFor_53 rfl (lv_at hl 0 rfl) ?_
            refine lv_iload hx hb dX0_playerFor_54 (lv_at hl 5 rfl) ?_
            refine gh_ci (va_runV (As := [.int (nI i)]) (rest := []) ⟨hx, hb, hml, hown, hts⟩ (c_X0_toneOf l G a sc o n i (hn) (hn16) (hi)) (cwV 1 hts gX0_playerFor_X0_toneOf rfl rfl rfl ⟨rfl, hdS_X0_toneOf⟩ ⟨Nat.le_of_ble_eq_true rfl, Nat.le_of_ble_eq_true rfl⟩) (gh_rV hE hP (ci := 0) (q0 := 0) rfl rfl) rfl rfl hl.1 rfl (lv_room (Nat.le_of_ble_eq_true rfl)) dX0_playerFor_56 ⟨Nat.le_of_ble_eq_true rfl, Nat.le_of_ble_eq_true rfl⟩) ?_
            refine lv_iload_n hx hb dX0_playerFor_59 rfl (lv_at hl 1 rfl) ?_
            refine gh_ci (va_runSN (As := [.int (gh_tn o i), .int t]) (rest := []) ⟨hx, hb, hml, hown, hts⟩ (c_X2_distance l G (gh_tn o i) t) ⟨va_cnB 2 hts gX0_playerFor_X2_distance_n94 rfl rfl rfl (hE.2.1 (RX0, 94, yX2_distance, RX2) (List.mem_of_getElem? (i := 5) rfl)) (hts (.initialized RX2) (List.mem_of_getElem? (i := 12) rfl)) hdS_X2_distance ⟨Nat.le_of_ble_eq_true rfl, Nat.le_of_ble_eq_true rfl⟩, (hts (.static yX2_distance) (List.mem_of_getElem? (i := 34) rfl)), trivial⟩ (gh_rS hE (fun k q h => by simp at h)) rfl rfl hl.1 rfl (lv_room (Nat.le_of_ble_eq_true rfl)) dX0_playerFor_60 ⟨Nat.le_of_ble_eq_true rfl, Nat.le_of_ble_eq_true rfl⟩) ?_
            refine lv_istore (lv' := [(6, .int (gh_ds (gh_tn o i) t)), (0, .ref (a 0)), (1, .int t), (2, .int f), (3, .int ((gh_pf o t f i).1)), (4, .int ((gh_pf o t f i).2)), (5, .int (nI i))]) hx hb dX0_playerFor_63 hl (by decide) rfl (fun ls hl => ?_)
            refine lv_iload hx hb dX0_playerFor_65 (lv_at hl 0 rfl) ?_
            refine lv_iload hx hb dX0_playerFor_67 (lv_at hl 5 rfl) ?_
            refine lv_icmp_ge (tgt := 79) hx hb dX0_playerFor_69 (by decide) (fun c_6 => ?_) (fun c_6 => ?_)
            · skip
              refine lv_iinc (v := nI (i + 1)) (lv' := [(5, .int (nI (i + 1))), (6, .int (gh_ds (gh_tn o i) t)), (0, .ref (a 0)), (1, .int t), (2, .int f), (3, .int ((gh_pf o t f i).1)), (4, .int ((gh_pf o t f i).2))]) hx hb dX0_playerFor_79 hl (k := 6) rfl (nI_1 i) (by decide) rfl (fun ls hl => ?_)
              refine lv_goto (tgt := 9) hx hb dX0_playerFor_82 (by decide) ?_
              exact ih ((gh_pf o t f i).1) ((gh_pf o t f i).2) (by first | (simp only [gh_pf, c_2, c_3, c_4, c_5, c_6, ↓reduceIte, if_true, if_false]; done) | (simp only [gh_pf]; simp only [c_2, c_3, c_4, c_5, c_6, ↓reduceIte, if_true, if_false]; done) | (simp [gh_pf, c_2, c_3, c_4, c_5, c_6, ↓reduceIte, if_true, if_false]; done)) (by first | (simp only [gh_pf, c_2, c_3, c_4, c_5, c_6, ↓reduceIte, if_true, if_false]; done) | (simp only [gh_pf]; simp only [c_2, c_3, c_4, c_5, c_6, ↓reduceIte, if_true, if_false]; done) | (simp [gh_pf, c_2, c_3, c_4, c_5, c_6, ↓reduceIte, if_true, if_false]; done)) _ (lv_sub hl [2, 3, 4, 5, 6, 0] rfl)
            · skip
              refine lv_iload hx hb dX0_playerFor_72 (lv_at hl 0 rfl) ?_
              refine lv_istore (lv' := [(4, .int (gh_ds (gh_tn o i) t)), (6, .int (gh_ds (gh_tn o i) t)), (0, .ref (a 0)), (1, .int t), (2, .int f), (3, .int ((gh_pf o t f i).1)), (5, .int (nI i))]) hx hb dX0_playerFor_74 hl (by decide) rfl (fun ls hl => ?_)
              refine lv_iload hx hb dX0_playerFor_76 (lv_at hl 6 rfl) ?_
              refine lv_istore_n (lv' := [(3, .int (nI i)), (4, .int (gh_ds (gh_tn o i) t)), (6, .int (gh_ds (gh_tn o i) t)), (0, .ref (a 0)), (1, .int t), (2, .int f), (5, .int (nI i))]) hx hb dX0_playerFor_78 rfl hl (by decide) rfl (fun ls hl => ?_)
              refine lv_iinc (v := nI (i + 1)) (lv' := [(5, .int (nI (i + 1))), (3, .int (nI i)), (4, .int (gh_ds (gh_tn o i) t)), (6, .int (gh_ds (gh_tn o i) t)), (0, .ref (a 0)), (1, .int t), (2, .int f)]) hx hb dX0_playerFor_79 hl (k := 6) rfl (nI_1 i) (by decide) rfl (fun ls hl => ?_)
              refine lv_goto (tgt := 9) hx hb dX0_playerFor_82 (by decide) ?_
              exact ih (nI i) (gh_ds (gh_tn o i) t) (by first | (simp only [gh_pf, c_2, c_3, c_4, c_5, c_6, ↓reduceIte, if_true, if_false]; done) | (simp only [gh_pf]; simp only [c_2, c_3, c_4, c_5, c_6, ↓reduceIte, if_true, if_false]; done) | (simp [gh_pf, c_2, c_3, c_4, c_5, c_6, ↓reduceIte, if_true, if_false]; done)) (by first | (simp only [gh_pf, c_2, c_3, c_4, c_5, c_6, ↓reduceIte, if_true, if_false]; done) | (simp only [gh_pf]; simp only [c_2, c_3, c_4, c_5, c_6, ↓reduceIte, if_true, if_false]; done) | (simp [gh_pf, c_2, c_3, c_4, c_5, c_6, ↓reduceIte, if_true, if_false]; done)) _ (lv_sub hl [4, 5, 6, 1, 2, 0] rfl)
  exact J9 (-1) 7 (by first | (simp only [gh_pf, ↓reduceIte, if_true, if_false]; done) | (simp only [gh_pf, ↓reduceIte, if_true, if_false]; rfl) | (simp [gh_pf, ↓reduceIte, if_true, if_false]; done)) (by first | (simp only [gh_pf, ↓reduceIte, if_true, if_false]; done) | (simp only [gh_pf, ↓reduceIte, if_true, if_false]; rfl) | (simp [gh_pf, ↓reduceIte, if_true, if_false]; done)) _ (lv_sub hl [3, 4, 5, 2, 1, 0] rfl)
