/-! the two that may draw: the mean -/
def gh_mean (up : Int32) (all : Int32) (r9 : UInt64) : Prop := if all = 0 then r9 = 0 else alike64 r9 (FP.ddiv (FP.i2d up) (FP.i2d all)) = true
theorem gh_mean_p {up all : Int32} (h : all = 0) : gh_mean up all 0 := by unfold gh_mean; rw [if_pos h]
theorem gh_mean_n {up all : Int32} {r9 : UInt64} (h : ¬ all = 0) (h1 : alike64 r9 (FP.ddiv (FP.i2d up) (FP.i2d all)) = true) : gh_mean up all r9 := by unfold gh_mean; rw [if_neg h]; exact h1
set_option maxHeartbeats 4000000 in
set_option maxRecDepth 100000 in
theorem c_X2_mean (l : Launch) (G : gh_G) (sz : Nat) (h : Nat) (a b d : Nat → Nat) (o : gh_B) : MetD lw_cs l yX2_mean wsX2_mean ({ frames := 0, cells := 0, slots := 0, locals := 0 } : Room) (gh_w G [.ref h] ((wH h (b 5) (a 0) (d 0)) ++ (wO G a (b 5) o)) sz) (va_Qd (fun (r9 : UInt64) (_ : Unit) => gh_mean (o 13 0) (o 12 0 + o 14 0) r9) (fun _ t9 => va_P G.1 vwCl ((wH h (b 5) (a 0) (d 0)) ++ (wO G a (b 5) o)) t9.heap) (va_A ((wH h (b 5) (a 0) (d 0)) ++ (wO G a (b 5) o)) sz)) 0 0 (va_A ((wH h (b 5) (a 0) (d 0)) ++ (wO G a (b 5) o)) sz) := by
  refine MetD.ofW (cc := cX2_mean) (maxL := 2) (ret := some .double) (by decide) rfl ?_
  intro p e s m args below meth c s₁ B hml hv hd0
  obtain ⟨rfl, hsz, hP, hE, hD0⟩ := hv
  have hx := B.exec
  have hb := B.bytes
  have hr := B.returns
  have hts := atoms_spec (ws := wsX2_mean) B.pre
  have hts := dr_words hts s.drawn
  have hown : s.vm.findClass RX2 = some m.cls := findClass_of_methodNamed B.named
  have hlocks := B.notSynchronized
  have hK : va_K G.1 vwCl (gh_ty G) (s.setDrawn s.drawn) := hE.1
  change s.heap.size = sz at hsz
  subst hsz
  have hD := hD0.self (sz := s.heap.size)
  generalize hAe : va_A ((wH h (b 5) (a 0) (d 0)) ++ (wO G a (b 5) o)) s.heap.size = A at hD ⊢
  have hA : ∀ q : Nat, s.heap.size ≤ q → A q := fun q h => by rw [← hAe]; exact Or.inr h
  have hS : va_S A s.heap s.heap [] := va_S.rf
  have hl := lv_entry ([.ref (h)]) (n := 2) (Nat.le_of_ble_eq_true rfl)
  rw [lg_entry_eq]
  generalize (lg_sl ([.ref (h)]) ++ List.replicate (2 - (lg_sl ([.ref (h)])).length) Slot.unset).toArray = ls at hl ⊢
  have hl : lv_has ls 2 [(0, .ref (h))] := hl
  refine lv_aload_n hx hb dX2_mean_0 rfl (lv_at hl 0 rfl) ?_
  refine va_get (D := G.1) (ci := 2) (v := .ref (a 0)) (C := RX2) (T := TX2) (N := 3) hx hb hts (fun w9 h9 => List.mem_cons_of_mem _ (List.mem_append_left _ (List.mem_append_right _ h9))) hown hK hP 0 rfl rfl 1 (by decide) (hts (.fieldLink RX2 21 "GlassHarp" "now" "LGlassHarp$Orchestra;") (List.mem_of_getElem? (i := 1) rfl)) (fun _ h9 => h9) rfl dX2_mean_1 ?_
  refine va_getN (D := G.1) (ci := 0) (v := .int (o 12 0)) (C := RX0) (T := TX0) (N := 15) hx hb hts (fun w9 h9 => List.mem_cons_of_mem _ (List.mem_append_right _ h9)) hown hK hP 1 rfl rfl 12 (by decide) (va_Nw.use rfl (hE.2.2 (RX2, 152, "GlassHarp$Orchestra", "played", "I", RX2) (List.mem_of_getElem? (i := 19) rfl))) (fun _ h9 => h9) rfl dX2_mean_4 ?_
  refine lv_aload_n hx hb dX2_mean_7 rfl (lv_at hl 0 rfl) ?_
  refine va_get (D := G.1) (ci := 2) (v := .ref (a 0)) (C := RX2) (T := TX2) (N := 3) hx hb hts (fun w9 h9 => List.mem_cons_of_mem _ (List.mem_append_left _ (List.mem_append_right _ h9))) hown hK hP 0 rfl rfl 1 (by decide) (hts (.fieldLink RX2 21 "GlassHarp" "now" "LGlassHarp$Orchestra;") (List.mem_of_getElem? (i := 1) rfl)) (fun _ h9 => h9) rfl dX2_mean_8 ?_
  refine va_getN (D := G.1) (ci := 0) (v := .int (o 14 0)) (C := RX0) (T := TX0) (N := 15) hx hb hts (fun w9 h9 => List.mem_cons_of_mem _ (List.mem_append_right _ h9)) hown hK hP 1 rfl rfl 14 (by decide) (va_Nw.use rfl (hE.2.2 (RX2, 173, "GlassHarp$Orchestra", "missed", "I", RX2) (List.mem_of_getElem? (i := 21) rfl))) (fun _ h9 => h9) rfl dX2_mean_11 ?_
  refine lv_iadd hx hb dX2_mean_14 ?_
  refine lv_istore_n (lv' := [(1, .int (o 12 0 + o 14 0)), (0, .ref h)]) hx hb dX2_mean_15 rfl hl (by decide) rfl (fun ls hl => ?_)
  refine lv_iload_n hx hb dX2_mean_16 rfl (lv_at hl 0 rfl) ?_
  refine lv_if_ne (tgt := 22) hx hb dX2_mean_17 (by decide) (fun c_1 => ?_) (fun c_1 => ?_)
  · skip
    refine lv_aload_n hx hb dX2_mean_22 rfl (lv_at hl 1 rfl) ?_
    refine va_get (D := G.1) (ci := 2) (v := .ref (a 0)) (C := RX2) (T := TX2) (N := 3) hx hb hts (fun w9 h9 => List.mem_cons_of_mem _ (List.mem_append_left _ (List.mem_append_right _ h9))) hown hK hP 0 rfl rfl 1 (by decide) (hts (.fieldLink RX2 21 "GlassHarp" "now" "LGlassHarp$Orchestra;") (List.mem_of_getElem? (i := 1) rfl)) (fun _ h9 => h9) rfl dX2_mean_23 ?_
    refine va_getN (D := G.1) (ci := 0) (v := .int (o 13 0)) (C := RX0) (T := TX0) (N := 15) hx hb hts (fun w9 h9 => List.mem_cons_of_mem _ (List.mem_append_right _ h9)) hown hK hP 1 rfl rfl 13 (by decide) (va_Nw.use rfl (hE.2.2 (RX2, 170, "GlassHarp$Orchestra", "inTune", "I", RX2) (List.mem_of_getElem? (i := 20) rfl))) (fun _ h9 => h9) rfl dX2_mean_26 ?_
    refine lv_i2d hx hb dX2_mean_29 ?_
    refine lv_iload_n hx hb dX2_mean_30 rfl (lv_at hl 0 rfl) ?_
    refine lv_i2d hx hb dX2_mean_31 ?_
    refine lv_ddiv_any hd0 lw_bits hx hb dX2_mean_32 (fun r9 d9 hal hd1 => ?_)
    refine W.endD hd1 ?_
    exact W.dret (v := r9) hx hb hr (fun t9 ht hW => ⟨⟨r9, (), rfl, gh_mean_n c_1 hal, gh_hp hP ht⟩, hS.F ht⟩) hS.2.2 dX2_mean_33
  · skip
    refine lv_dconst0 hx hb dX2_mean_20 ?_
    refine W.endD hd0 ?_
    exact W.dret (v := 0) hx hb hr (fun t9 ht hW => ⟨⟨0, (), rfl, gh_mean_p c_1, gh_hp hP ht⟩, hS.F ht⟩) hS.2.2 dX2_mean_21
set_option maxHeartbeats 4000000 in
set_option maxRecDepth 100000 in
theorem c_X4_mean (l : Launch) (G : gh_G) (sz : Nat) (x : Nat → Nat) (r : gh_B) (a : Nat → Nat) (t : gh_B) (s2 : Nat) : MetD lw_cs l yX4_mean wsX4_mean ({ frames := 0, cells := 0, slots := 0, locals := 0 } : Room) (gh_w G [.ref (x 0)] ((wM G x (a 0) s2 r) ++ (wT G a (x 0) t)) sz) (va_Qd (fun (r9 : UInt64) (_ : Unit) => gh_mean (t 2 0) (t 1 0 + t 3 0) r9) (fun _ t9 => va_P G.1 vwCl ((wM G x (a 0) s2 (gm_z r)) ++ (wT G a (x 0) t)) t9.heap) (va_A ((wM G x (a 0) s2 r) ++ (wT G a (x 0) t)) sz)) 0 0 (va_A ((wM G x (a 0) s2 r) ++ (wT G a (x 0) t)) sz) := by
  refine MetD.ofW (cc := cX4_mean) (maxL := 2) (ret := some .double) (by decide) rfl ?_
  intro p e s m args below meth c s₁ B hml hv hd0
  obtain ⟨rfl, hsz, hP, hE, hD0⟩ := hv
  have hx := B.exec
  have hb := B.bytes
  have hr := B.returns
  have hts := atoms_spec (ws := wsX4_mean) B.pre
  have hts := dr_words hts s.drawn
  have hown : s.vm.findClass RX4 = some m.cls := findClass_of_methodNamed B.named
  have hlocks := B.notSynchronized
  have hK : va_K G.1 vwCl (gh_ty G) (s.setDrawn s.drawn) := hE.1
  change s.heap.size = sz at hsz
  subst hsz
  have hD := hD0.self (sz := s.heap.size)
  generalize hAe : va_A ((wM G x (a 0) s2 r) ++ (wT G a (x 0) t)) s.heap.size = A at hD ⊢
  have hA : ∀ q : Nat, s.heap.size ≤ q → A q := fun q h => by rw [← hAe]; exact Or.inr h
  have hS : va_S A s.heap s.heap [] := va_S.rf
  have hl := lv_entry ([.ref (x 0)]) (n := 2) (Nat.le_of_ble_eq_true rfl)
  rw [lg_entry_eq]
  generalize (lg_sl ([.ref (x 0)]) ++ List.replicate (2 - (lg_sl ([.ref (x 0)])).length) Slot.unset).toArray = ls at hl ⊢
  have hl : lv_has ls 2 [(0, .ref (x 0))] := hl
  refine lv_aload_n hx hb dX4_mean_0 rfl (lv_at hl 0 rfl) ?_
  refine lv_iconst (v := 0) hx hb dX4_mean_1 (by decide) ?_
  refine va_put (D := G.1) (ci := 4) (v := .int 0) (ty := .int) (C := RX4) (T := TX4) (N := 9) hx hb hts (fun w9 h9 => List.mem_cons_of_mem _ (List.mem_append_left _ (List.mem_append_right _ h9))) tyX4 tyX4_ok nmX4 hown hK hP hD hS 0 rfl rfl 0 (by decide) (hts (.fieldLink RX4 35 "GlassHarpModel" "thrown" "I") (List.mem_of_getElem? (i := 1) rfl)) (fun _ h9 => h9) rfl (tyX4_ok 0 (by decide)) rfl rfl (Nat.le_of_ble_eq_true rfl) dX4_mean_2 (fun H locs hP hD hS => ?_)
  have hP : va_P G.1 vwCl ((wM G x (a 0) s2 (gm_z r)) ++ (wT G a (x 0) t)) H := hP
  have hD : va_D A ((wM G x (a 0) s2 (gm_z r)) ++ (wT G a (x 0) t)) := hD
  refine lv_aload_n hx hb dX4_mean_5 rfl (lv_at hl 0 rfl) ?_
  refine va_get (D := G.1) (ci := 4) (v := .ref (a 0)) (C := RX4) (T := TX4) (N := 9) hx hb hts (fun w9 h9 => List.mem_cons_of_mem _ (List.mem_append_left _ (List.mem_append_right _ h9))) hown hK hP 0 rfl rfl 7 (by decide) (hts (.fieldLink RX4 28 "GlassHarpModel" "s" "LGlassHarpModel$State;") (List.mem_of_getElem? (i := 2) rfl)) (fun _ h9 => h9) rfl dX4_mean_6 ?_
  refine va_getN (D := G.1) (ci := 3) (v := .int (t 1 0)) (C := RX3) (T := TX3) (N := 12) hx hb hts (fun w9 h9 => List.mem_cons_of_mem _ (List.mem_append_right _ h9)) hown hK hP 4 rfl rfl 1 (by decide) (va_Nw.use rfl (hE.2.2 (RX4, 100, "GlassHarpModel$State", "played", "I", RX4) (List.mem_of_getElem? (i := 23) rfl))) (fun _ h9 => h9) rfl dX4_mean_9 ?_
  refine lv_aload_n hx hb dX4_mean_12 rfl (lv_at hl 0 rfl) ?_
  refine va_get (D := G.1) (ci := 4) (v := .ref (a 0)) (C := RX4) (T := TX4) (N := 9) hx hb hts (fun w9 h9 => List.mem_cons_of_mem _ (List.mem_append_left _ (List.mem_append_right _ h9))) hown hK hP 0 rfl rfl 7 (by decide) (hts (.fieldLink RX4 28 "GlassHarpModel" "s" "LGlassHarpModel$State;") (List.mem_of_getElem? (i := 2) rfl)) (fun _ h9 => h9) rfl dX4_mean_13 ?_
  refine va_getN (D := G.1) (ci := 3) (v := .int (t 3 0)) (C := RX3) (T := TX3) (N := 12) hx hb hts (fun w9 h9 => List.mem_cons_of_mem _ (List.mem_append_right _ h9)) hown hK hP 4 rfl rfl 3 (by decide) (va_Nw.use rfl (hE.2.2 (RX4, 116, "GlassHarpModel$State", "missed", "I", RX4) (List.mem_of_getElem? (i := 25) rfl))) (fun _ h9 => h9) rfl dX4_mean_16 ?_
  refine lv_iadd hx hb dX4_mean_19 ?_
  refine lv_istore_n (lv' := [(1, .int (t 1 0 + t 3 0)), (0, .ref (x 0))]) hx hb dX4_mean_20 rfl hl (by decide) rfl (fun ls hl => ?_)
  refine lv_iload_n hx hb dX4_mean_21 rfl (lv_at hl 0 rfl) ?_
  refine lv_if_ne (tgt := 29) hx hb dX4_mean_22 (by decide) (fun c_1 => ?_) (fun c_1 => ?_)
  · skip
    refine lv_aload_n hx hb dX4_mean_29 rfl (lv_at hl 1 rfl) ?_
    refine va_get (D := G.1) (ci := 4) (v := .ref (a 0)) (C := RX4) (T := TX4) (N := 9) hx hb hts (fun w9 h9 => List.mem_cons_of_mem _ (List.mem_append_left _ (List.mem_append_right _ h9))) hown hK hP 0 rfl rfl 7 (by decide) (hts (.fieldLink RX4 28 "GlassHarpModel" "s" "LGlassHarpModel$State;") (List.mem_of_getElem? (i := 2) rfl)) (fun _ h9 => h9) rfl dX4_mean_30 ?_
    refine va_getN (D := G.1) (ci := 3) (v := .int (t 2 0)) (C := RX3) (T := TX3) (N := 12) hx hb hts (fun w9 h9 => List.mem_cons_of_mem _ (List.mem_append_right _ h9)) hown hK hP 4 rfl rfl 2 (by decide) (va_Nw.use rfl (hE.2.2 (RX4, 113, "GlassHarpModel$State", "tuned", "I", RX4) (List.mem_of_getElem? (i := 24) rfl))) (fun _ h9 => h9) rfl dX4_mean_33 ?_
    refine lv_i2d hx hb dX4_mean_36 ?_
    refine lv_iload_n hx hb dX4_mean_37 rfl (lv_at hl 0 rfl) ?_
    refine lv_i2d hx hb dX4_mean_38 ?_
    refine lv_ddiv_any hd0 lw_bits hx hb dX4_mean_39 (fun r9 d9 hal hd1 => ?_)
    refine W.endD hd1 ?_
    exact W.dret (v := r9) hx hb hr (fun t9 ht hW => ⟨⟨r9, (), rfl, gh_mean_n c_1 hal, gh_hp hP ht⟩, hS.F ht⟩) hS.2.2 dX4_mean_40
  · skip
    refine lv_dconst0 hx hb dX4_mean_25 ?_
    refine lv_goto (tgt := 40) hx hb dX4_mean_26 (by decide) ?_
    refine W.endD hd0 ?_
    exact W.dret (v := 0) hx hb hr (fun t9 ht hW => ⟨⟨0, (), rfl, gh_mean_p c_1, gh_hp hP ht⟩, hS.F ht⟩) hS.2.2 dX4_mean_40
