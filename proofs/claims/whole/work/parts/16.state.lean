set_option maxHeartbeats 4000000 in
set_option maxRecDepth 100000 in
theorem c_X3_copy (l : Launch) (G : gh_G) (sz : Nat) (aa : Nat) (u : Nat) (f : Nat → Int32) (v : Nat) (g : Nat → Int32) (n : Nat) (hn : n < 2 ^ 31) : Met l yX3_copy wsX3_copy ({ frames := 1, cells := 0, slots := 0, locals := 70 } : Room) (gh_w G [.ref aa, .ref u, .ref v] (([(u, .inl (G.2.1, n, .inl (f)))]) ++ ([(v, .inl (G.2.1, n, .inl (g)))])) sz) (va_Qv (fun _ : Unit => True) (fun _ t9 => va_P G.1 vwCl (([(u, .inl (G.2.1, n, .inl (f)))]) ++ ([(v, .inl (G.2.1, n, .inl (va_cpy f g 0 0 n)))])) t9.heap) (va_A (([(u, .inl (G.2.1, n, .inl (f)))]) ++ ([(v, .inl (G.2.1, n, .inl (g)))])) sz)) 0 0 (va_A (([(u, .inl (G.2.1, n, .inl (f)))]) ++ ([(v, .inl (G.2.1, n, .inl (g)))])) sz) := by
  refine Met.ofW (cc := cX3_copy) (maxL := 3) (ret := none) (by decide) rfl ?_
  intro p e s m args below meth c s₁ B hml hv
  obtain ⟨rfl, hsz, hP, hE, hD0⟩ := hv
  have hx := B.exec
  have hb := B.bytes
  have hr := B.returns
  have hts := atoms_spec (ws := wsX3_copy) B.pre
  have hown : s.vm.findClass RX3 = some m.cls := findClass_of_methodNamed B.named
  have hlocks := B.notSynchronized
  have hK := hE.1
  subst hsz
  have hD := hD0.self (sz := s.heap.size)
  generalize hAe : va_A (([(u, .inl (G.2.1, n, .inl (f)))]) ++ ([(v, .inl (G.2.1, n, .inl (g)))])) s.heap.size = A at hD ⊢
  have hA : ∀ q : Nat, s.heap.size ≤ q → A q := fun q h => by rw [← hAe]; exact Or.inr h
  have hS : va_S A s.heap s.heap [] := va_S.rf
  have hl := lv_entry ([.ref aa, .ref u, .ref v]) (n := 3) (Nat.le_of_ble_eq_true rfl)
  rw [lg_entry_eq]
  generalize (lg_sl ([.ref aa, .ref u, .ref v]) ++ List.replicate (3 - (lg_sl ([.ref aa, .ref u, .ref v])).length) Slot.unset).toArray = ls at hl ⊢
  have hl : lv_has ls 3 [(0, .ref aa), (1, .ref u), (2, .ref v)] := hl
  refine lv_aload_n hx hb dX3_copy_0 rfl (lv_at hl 1 rfl) ?_
  refine lv_iconst (v := 0) hx hb dX3_copy_1 (by decide) ?_
  refine lv_aload_n hx hb dX3_copy_2 rfl (lv_at hl 2 rfl) ?_
  refine lv_iconst (v := 0) hx hb dX3_copy_3 (by decide) ?_
  refine lv_aload_n hx hb dX3_copy_4 rfl (lv_at hl 1 rfl) ?_
  refine va_alen (v := nI n) hx hb hK hP 0 rfl (ty := .int) (t0 := 0) rfl rfl dX3_copy_5 ?_
  refine gh_cp (f := f) (g := g) (ws' := ([(u, .inl (G.2.1, n, .inl (f)))]) ++ ([(v, .inl (G.2.1, n, .inl (va_cpy f g 0 0 n)))])) hx hb (hml.trans hl.1.symm) hown (hts (.methodLink RX3 34 arraycopyName) (List.mem_of_getElem? (i := 1) rfl)) (hts (.native arraycopyName) (List.mem_of_getElem? (i := 2) rfl)) (hts (.static arraycopyName) (List.mem_of_getElem? (i := 3) rfl)) (hts (.initialized "java/lang/System") (List.mem_of_getElem? (i := 4) rfl)) hK hP hD hS 0 1 0 0 rfl rfl rfl rfl 0 rfl 0 rfl n rfl (by omega) (by omega) (hn) (hn) (Nat.le_of_ble_eq_true rfl) (Nat.le_of_ble_eq_true rfl) dX3_copy_6 rfl (fun H locs hP hD hS => ?_)
  have hP9 := hP
  exact W.vret hx hb hr (fun t9 ht hW => ⟨⟨(), rfl, trivial, gh_hp hP9 ht⟩, hS.F ht⟩) hS.2.2 dX3_copy_9
set_option maxHeartbeats 4000000 in
set_option maxRecDepth 100000 in
theorem c_X3_become (l : Launch) (G : gh_G) (sz : Nat) (a : Nat → Nat) (t : gh_B) (d : Nat → Nat) (q : gh_B) (mm : Nat)  : Met l yX3_become wsX3_become ({ frames := 2, cells := 0, slots := 0, locals := 92 } : Room) (gh_w G [.ref (a 0), .ref (d 0)] ((wT G a mm t) ++ (wT G d mm q)) sz) (va_Qv (fun _ : Unit => True) (fun _ t9 => va_P G.1 vwCl ((wT G a mm (gm_bc q t)) ++ (wT G d mm q)) t9.heap) (va_A ((wT G a mm t) ++ (wT G d mm q)) sz)) 0 0 (va_A ((wT G a mm t) ++ (wT G d mm q)) sz) := by
  refine Met.ofW (cc := cX3_become) (maxL := 2) (ret := none) (by decide) rfl ?_
  intro p e s m args below meth c s₁ B hml hv
  obtain ⟨rfl, hsz, hP, hE, hD0⟩ := hv
  have hx := B.exec
  have hb := B.bytes
  have hr := B.returns
  have hts := atoms_spec (ws := wsX3_become) B.pre
  have hown : s.vm.findClass RX3 = some m.cls := findClass_of_methodNamed B.named
  have hlocks := B.notSynchronized
  have hK := hE.1
  subst hsz
  have hD := hD0.self (sz := s.heap.size)
  generalize hAe : va_A ((wT G a mm t) ++ (wT G d mm q)) s.heap.size = A at hD ⊢
  have hA : ∀ q : Nat, s.heap.size ≤ q → A q := fun q h => by rw [← hAe]; exact Or.inr h
  have hS : va_S A s.heap s.heap [] := va_S.rf
  have hl := lv_entry ([.ref (a 0), .ref (d 0)]) (n := 2) (Nat.le_of_ble_eq_true rfl)
  rw [lg_entry_eq]
  generalize (lg_sl ([.ref (a 0), .ref (d 0)]) ++ List.replicate (2 - (lg_sl ([.ref (a 0), .ref (d 0)])).length) Slot.unset).toArray = ls at hl ⊢
  have hl : lv_has ls 2 [(0, .ref (a 0)), (1, .ref (d 0))] := hl
  refine lv_aload_n hx hb dX3_become_0 rfl (lv_at hl 0 rfl) ?_
  refine lv_aload_n hx hb dX3_become_1 rfl (lv_at hl 1 rfl) ?_
  refine va_get (D := G.1) (ci := 3) (v := .int (q 0 0)) (C := RX3) (T := TX3) (N := 12) hx hb hts (fun w9 h9 => List.mem_cons_of_mem _ (List.mem_append_right _ h9)) hown hK hP 7 rfl rfl 0 (by decide) (hts (.fieldLink RX3 40 "GlassHarpModel$State" "beat" "I") (List.mem_of_getElem? (i := 1) rfl)) (fun _ h9 => h9) rfl dX3_become_2 ?_
  refine va_put (D := G.1) (ci := 3) (v := .int (q 0 0)) (ty := .int) (C := RX3) (T := TX3) (N := 12) hx hb hts (fun w9 h9 => List.mem_cons_of_mem _ (List.mem_append_right _ h9)) tyX3 tyX3_ok nmX3 hown hK hP hD hS 0 rfl rfl 0 (by decide) (hts (.fieldLink RX3 40 "GlassHarpModel$State" "beat" "I") (List.mem_of_getElem? (i := 1) rfl)) (fun _ h9 => h9) rfl (tyX3_ok 0 (by decide)) rfl rfl (Nat.le_of_ble_eq_true rfl) dX3_become_5 (fun H locs hP hD hS => ?_)
  have hP : va_P G.1 vwCl ((wT G a mm (gh_st t 0 (fun _ => q 0 0))) ++ (wT G d mm q)) H := hP
  have hD : va_D A ((wT G a mm (gh_st t 0 (fun _ => q 0 0))) ++ (wT G d mm q)) := hD
  refine lv_aload_n hx hb dX3_become_8 rfl (lv_at hl 0 rfl) ?_
  refine lv_aload_n hx hb dX3_become_9 rfl (lv_at hl 1 rfl) ?_
  refine va_get (D := G.1) (ci := 3) (v := .int (q 1 0)) (C := RX3) (T := TX3) (N := 12) hx hb hts (fun w9 h9 => List.mem_cons_of_mem _ (List.mem_append_right _ h9)) hown hK hP 7 rfl rfl 1 (by decide) (hts (.fieldLink RX3 44 "GlassHarpModel$State" "played" "I") (List.mem_of_getElem? (i := 2) rfl)) (fun _ h9 => h9) rfl dX3_become_10 ?_
  refine va_put (D := G.1) (ci := 3) (v := .int (q 1 0)) (ty := .int) (C := RX3) (T := TX3) (N := 12) hx hb hts (fun w9 h9 => List.mem_cons_of_mem _ (List.mem_append_right _ h9)) tyX3 tyX3_ok nmX3 hown hK hP hD hS 0 rfl rfl 1 (by decide) (hts (.fieldLink RX3 44 "GlassHarpModel$State" "played" "I") (List.mem_of_getElem? (i := 2) rfl)) (fun _ h9 => h9) rfl (tyX3_ok 1 (by decide)) rfl rfl (Nat.le_of_ble_eq_true rfl) dX3_become_13 (fun H locs hP hD hS => ?_)
  have hP : va_P G.1 vwCl ((wT G a mm (gh_st (gh_st t 0 (fun _ => q 0 0)) 1 (fun _ => q 1 0))) ++ (wT G d mm q)) H := hP
  have hD : va_D A ((wT G a mm (gh_st (gh_st t 0 (fun _ => q 0 0)) 1 (fun _ => q 1 0))) ++ (wT G d mm q)) := hD
  refine lv_aload_n hx hb dX3_become_16 rfl (lv_at hl 0 rfl) ?_
  refine lv_aload_n hx hb dX3_become_17 rfl (lv_at hl 1 rfl) ?_
  refine va_get (D := G.1) (ci := 3) (v := .int (q 2 0)) (C := RX3) (T := TX3) (N := 12) hx hb hts (fun w9 h9 => List.mem_cons_of_mem _ (List.mem_append_right _ h9)) hown hK hP 7 rfl rfl 2 (by decide) (hts (.fieldLink RX3 47 "GlassHarpModel$State" "tuned" "I") (List.mem_of_getElem? (i := 3) rfl)) (fun _ h9 => h9) rfl dX3_become_18 ?_
  refine va_put (D := G.1) (ci := 3) (v := .int (q 2 0)) (ty := .int) (C := RX3) (T := TX3) (N := 12) hx hb hts (fun w9 h9 => List.mem_cons_of_mem _ (List.mem_append_right _ h9)) tyX3 tyX3_ok nmX3 hown hK hP hD hS 0 rfl rfl 2 (by decide) (hts (.fieldLink RX3 47 "GlassHarpModel$State" "tuned" "I") (List.mem_of_getElem? (i := 3) rfl)) (fun _ h9 => h9) rfl (tyX3_ok 2 (by decide)) rfl rfl (Nat.le_of_ble_eq_true rfl) dX3_become_21 (fun H locs hP hD hS => ?_)
  have hP : va_P G.1 vwCl ((wT G a mm (gh_st (gh_st (gh_st t 0 (fun _ => q 0 0)) 1 (fun _ => q 1 0)) 2 (fun _ => q 2 0))) ++ (wT G d mm q)) H := hP
  have hD : va_D A ((wT G a mm (gh_st (gh_st (gh_st t 0 (fun _ => q 0 0)) 1 (fun _ => q 1 0)) 2 (fun _ => q 2 0))) ++ (wT G d mm q)) := hD
  refine lv_aload_n hx hb dX3_become_24 rfl (lv_at hl 0 rfl) ?_
  refine lv_aload_n hx hb dX3_become_25 rfl (lv_at hl 1 rfl) ?_
  refine va_get (D := G.1) (ci := 3) (v := .int (q 3 0)) (C := RX3) (T := TX3) (N := 12) hx hb hts (fun w9 h9 => List.mem_cons_of_mem _ (List.mem_append_right _ h9)) hown hK hP 7 rfl rfl 3 (by decide) (hts (.fieldLink RX3 50 "GlassHarpModel$State" "missed" "I") (List.mem_of_getElem? (i := 4) rfl)) (fun _ h9 => h9) rfl dX3_become_26 ?_
  refine va_put (D := G.1) (ci := 3) (v := .int (q 3 0)) (ty := .int) (C := RX3) (T := TX3) (N := 12) hx hb hts (fun w9 h9 => List.mem_cons_of_mem _ (List.mem_append_right _ h9)) tyX3 tyX3_ok nmX3 hown hK hP hD hS 0 rfl rfl 3 (by decide) (hts (.fieldLink RX3 50 "GlassHarpModel$State" "missed" "I") (List.mem_of_getElem? (i := 4) rfl)) (fun _ h9 => h9) rfl (tyX3_ok 3 (by decide)) rfl rfl (Nat.le_of_ble_eq_true rfl) dX3_become_29 (fun H locs hP hD hS => ?_)
  have hP : va_P G.1 vwCl ((wT G a mm (gh_st (gh_st (gh_st (gh_st t 0 (fun _ => q 0 0)) 1 (fun _ => q 1 0)) 2 (fun _ => q 2 0)) 3 (fun _ => q 3 0))) ++ (wT G d mm q)) H := hP
  have hD : va_D A ((wT G a mm (gh_st (gh_st (gh_st (gh_st t 0 (fun _ => q 0 0)) 1 (fun _ => q 1 0)) 2 (fun _ => q 2 0)) 3 (fun _ => q 3 0))) ++ (wT G d mm q)) := hD
  refine lv_aload_n hx hb dX3_become_32 rfl (lv_at hl 0 rfl) ?_
  refine lv_aload_n hx hb dX3_become_33 rfl (lv_at hl 1 rfl) ?_
  refine va_get (D := G.1) (ci := 3) (v := .ref (d 4)) (C := RX3) (T := TX3) (N := 12) hx hb hts (fun w9 h9 => List.mem_cons_of_mem _ (List.mem_append_right _ h9)) hown hK hP 7 rfl rfl 4 (by decide) (hts (.fieldLink RX3 15 "GlassHarpModel$State" "air" "[I") (List.mem_of_getElem? (i := 5) rfl)) (fun _ h9 => h9) rfl dX3_become_34 ?_
  refine lv_aload_n hx hb dX3_become_37 rfl (lv_at hl 0 rfl) ?_
  refine va_get (D := G.1) (ci := 3) (v := .ref (a 4)) (C := RX3) (T := TX3) (N := 12) hx hb hts (fun w9 h9 => List.mem_cons_of_mem _ (List.mem_append_right _ h9)) hown hK hP 0 rfl rfl 4 (by decide) (hts (.fieldLink RX3 15 "GlassHarpModel$State" "air" "[I") (List.mem_of_getElem? (i := 5) rfl)) (fun _ h9 => h9) rfl dX3_become_38 ?_
  refine gh_cv (wr := [(a 0, .inr (3, [.int (q 0 0), .int (q 1 0), .int (q 2 0), .int (q 3 0), .ref (a 4), .ref (a 5), .ref (a 6), .ref (a 7), .ref (a 8), .ref (a 9), .int (t 10 0), .ref mm])), (a 5, .inl (G.2.1, 4, .inl (t 5))), (a 6, .inl (G.2.1, 16, .inl (t 6))), (a 7, .inl (G.2.1, 16, .inl (t 7))), (a 8, .inl (G.2.1, 16, .inl (t 8))), (a 9, .inl (G.2.1, 16, .inl (t 9))), (d 0, .inr (3, [.int (q 0 0), .int (q 1 0), .int (q 2 0), .int (q 3 0), .ref (d 4), .ref (d 5), .ref (d 6), .ref (d 7), .ref (d 8), .ref (d 9), .int (q 10 0), .ref mm])), (d 5, .inl (G.2.1, 4, .inl (q 5))), (d 6, .inl (G.2.1, 16, .inl (q 6))), (d 7, .inl (G.2.1, 16, .inl (q 7))), (d 8, .inl (G.2.1, 16, .inl (q 8))), (d 9, .inl (G.2.1, 16, .inl (q 9)))]) (ws' := (wT G a mm (gh_st (gh_st (gh_st (gh_st (gh_st t 0 (fun _ => q 0 0)) 1 (fun _ => q 1 0)) 2 (fun _ => q 2 0)) 3 (fun _ => q 3 0)) 4 (va_cpy (q 4) (t 4) 0 0 4))) ++ (wT G d mm q)) (va_runV (As := [.ref (d 4), .ref (a 4)]) (rest := []) ⟨hx, hb, hml, hown, hts⟩ (c_X3_copy l G H.size (a 0) (d 4) (q 4) (a 4) (t 4) 4 (by decide)) (cwV 2 hts gX3_become_X3_copy rfl rfl rfl ⟨rfl, hdS_X3_copy⟩ ⟨Nat.le_of_ble_eq_true rfl, Nat.le_of_ble_eq_true rfl⟩) ⟨gh_wb, va_recv hK hP (ci := 3) (q0 := 0) rfl rfl, (gh_wS hE (hP.sub (ws' := [(d 4, .inl (G.2.1, 4, .inl (q 4)))] ++ [(a 4, .inl (G.2.1, 4, .inl (t 4)))]) [8, 1] rfl) (hD.sub (ws' := [(d 4, .inl (G.2.1, 4, .inl (q 4)))] ++ [(a 4, .inl (G.2.1, 4, .inl (t 4)))]) [8, 1] (by decide) rfl)).2⟩ rfl rfl hl.1 rfl (lv_room (Nat.le_of_ble_eq_true rfl)) dX3_become_41 ⟨Nat.le_of_ble_eq_true rfl, Nat.le_of_ble_eq_true rfl⟩) hP hD hS hA [8, 1] [0, 2, 3, 4, 5, 6, 7, 9, 10, 11, 12, 13] [0, 13, 1, 2, 3, 4, 5, 6, 12, 7, 8, 9, 10, 11] rfl rfl (by decide) (by decide) (by decide) [d 4, a 4] [a 0, a 4, a 5, a 6, a 7, a 8, a 9, d 0, d 4, d 5, d 6, d 7, d 8, d 9] rfl rfl rfl rfl rfl (fun H locs hP hD hS => ?_)
  refine lv_aload_n hx hb dX3_become_44 rfl (lv_at hl 0 rfl) ?_
  refine lv_aload_n hx hb dX3_become_45 rfl (lv_at hl 1 rfl) ?_
  refine va_get (D := G.1) (ci := 3) (v := .ref (d 5)) (C := RX3) (T := TX3) (N := 12) hx hb hts (fun w9 h9 => List.mem_cons_of_mem _ (List.mem_append_right _ h9)) hown hK hP 7 rfl rfl 5 (by decide) (hts (.fieldLink RX3 19 "GlassHarpModel$State" "pump" "[I") (List.mem_of_getElem? (i := 6) rfl)) (fun _ h9 => h9) rfl dX3_become_46 ?_
  refine lv_aload_n hx hb dX3_become_49 rfl (lv_at hl 0 rfl) ?_
  refine va_get (D := G.1) (ci := 3) (v := .ref (a 5)) (C := RX3) (T := TX3) (N := 12) hx hb hts (fun w9 h9 => List.mem_cons_of_mem _ (List.mem_append_right _ h9)) hown hK hP 0 rfl rfl 5 (by decide) (hts (.fieldLink RX3 19 "GlassHarpModel$State" "pump" "[I") (List.mem_of_getElem? (i := 6) rfl)) (fun _ h9 => h9) rfl dX3_become_50 ?_
  refine gh_cv (wr := [(a 0, .inr (3, [.int (q 0 0), .int (q 1 0), .int (q 2 0), .int (q 3 0), .ref (a 4), .ref (a 5), .ref (a 6), .ref (a 7), .ref (a 8), .ref (a 9), .int (t 10 0), .ref mm])), (a 4, .inl (G.2.1, 4, .inl (va_cpy (q 4) (t 4) 0 0 4))), (a 6, .inl (G.2.1, 16, .inl (t 6))), (a 7, .inl (G.2.1, 16, .inl (t 7))), (a 8, .inl (G.2.1, 16, .inl (t 8))), (a 9, .inl (G.2.1, 16, .inl (t 9))), (d 0, .inr (3, [.int (q 0 0), .int (q 1 0), .int (q 2 0), .int (q 3 0), .ref (d 4), .ref (d 5), .ref (d 6), .ref (d 7), .ref (d 8), .ref (d 9), .int (q 10 0), .ref mm])), (d 4, .inl (G.2.1, 4, .inl (q 4))), (d 6, .inl (G.2.1, 16, .inl (q 6))), (d 7, .inl (G.2.1, 16, .inl (q 7))), (d 8, .inl (G.2.1, 16, .inl (q 8))), (d 9, .inl (G.2.1, 16, .inl (q 9)))]) (ws' := (wT G a mm (gh_st (gh_st (gh_st (gh_st (gh_st (gh_st t 0 (fun _ => q 0 0)) 1 (fun _ => q 1 0)) 2 (fun _ => q 2 0)) 3 (fun _ => q 3 0)) 4 (va_cpy (q 4) (t 4) 0 0 4)) 5 (va_cpy (q 5) (t 5) 0 0 4))) ++ (wT G d mm q)) (va_runV (As := [.ref (d 5), .ref (a 5)]) (rest := []) ⟨hx, hb, hml, hown, hts⟩ (c_X3_copy l G H.size (a 0) (d 5) (q 5) (a 5) (t 5) 4 (by decide)) (cwV 2 hts gX3_become_X3_copy rfl rfl rfl ⟨rfl, hdS_X3_copy⟩ ⟨Nat.le_of_ble_eq_true rfl, Nat.le_of_ble_eq_true rfl⟩) ⟨gh_wb, va_recv hK hP (ci := 3) (q0 := 0) rfl rfl, (gh_wS hE (hP.sub (ws' := [(d 5, .inl (G.2.1, 4, .inl (q 5)))] ++ [(a 5, .inl (G.2.1, 4, .inl (t 5)))]) [9, 2] rfl) (hD.sub (ws' := [(d 5, .inl (G.2.1, 4, .inl (q 5)))] ++ [(a 5, .inl (G.2.1, 4, .inl (t 5)))]) [9, 2] (by decide) rfl)).2⟩ rfl rfl hl.1 rfl (lv_room (Nat.le_of_ble_eq_true rfl)) dX3_become_53 ⟨Nat.le_of_ble_eq_true rfl, Nat.le_of_ble_eq_true rfl⟩) hP hD hS hA [9, 2] [0, 1, 3, 4, 5, 6, 7, 8, 10, 11, 12, 13] [0, 1, 13, 2, 3, 4, 5, 6, 7, 12, 8, 9, 10, 11] rfl rfl (by decide) (by decide) (by decide) [d 5, a 5] [a 0, a 4, a 5, a 6, a 7, a 8, a 9, d 0, d 4, d 5, d 6, d 7, d 8, d 9] rfl rfl rfl rfl rfl (fun H locs hP hD hS => ?_)
  refine lv_aload_n hx hb dX3_become_56 rfl (lv_at hl 0 rfl) ?_
  refine lv_aload_n hx hb dX3_become_57 rfl (lv_at hl 1 rfl) ?_
  refine va_get (D := G.1) (ci := 3) (v := .ref (d 6)) (C := RX3) (T := TX3) (N := 12) hx hb hts (fun w9 h9 => List.mem_cons_of_mem _ (List.mem_append_right _ h9)) hown hK hP 7 rfl rfl 6 (by decide) (hts (.fieldLink RX3 22 "GlassHarpModel$State" "drops" "[I") (List.mem_of_getElem? (i := 7) rfl)) (fun _ h9 => h9) rfl dX3_become_58 ?_
  refine lv_aload_n hx hb dX3_become_61 rfl (lv_at hl 0 rfl) ?_
  refine va_get (D := G.1) (ci := 3) (v := .ref (a 6)) (C := RX3) (T := TX3) (N := 12) hx hb hts (fun w9 h9 => List.mem_cons_of_mem _ (List.mem_append_right _ h9)) hown hK hP 0 rfl rfl 6 (by decide) (hts (.fieldLink RX3 22 "GlassHarpModel$State" "drops" "[I") (List.mem_of_getElem? (i := 7) rfl)) (fun _ h9 => h9) rfl dX3_become_62 ?_
  refine gh_cv (wr := [(a 0, .inr (3, [.int (q 0 0), .int (q 1 0), .int (q 2 0), .int (q 3 0), .ref (a 4), .ref (a 5), .ref (a 6), .ref (a 7), .ref (a 8), .ref (a 9), .int (t 10 0), .ref mm])), (a 4, .inl (G.2.1, 4, .inl (va_cpy (q 4) (t 4) 0 0 4))), (a 5, .inl (G.2.1, 4, .inl (va_cpy (q 5) (t 5) 0 0 4))), (a 7, .inl (G.2.1, 16, .inl (t 7))), (a 8, .inl (G.2.1, 16, .inl (t 8))), (a 9, .inl (G.2.1, 16, .inl (t 9))), (d 0, .inr (3, [.int (q 0 0), .int (q 1 0), .int (q 2 0), .int (q 3 0), .ref (d 4), .ref (d 5), .ref (d 6), .ref (d 7), .ref (d 8), .ref (d 9), .int (q 10 0), .ref mm])), (d 4, .inl (G.2.1, 4, .inl (q 4))), (d 5, .inl (G.2.1, 4, .inl (q 5))), (d 7, .inl (G.2.1, 16, .inl (q 7))), (d 8, .inl (G.2.1, 16, .inl (q 8))), (d 9, .inl (G.2.1, 16, .inl (q 9)))]) (ws' := (wT G a mm (gh_st (gh_st (gh_st (gh_st (gh_st (gh_st (gh_st t 0 (fun _ => q 0 0)) 1 (fun _ => q 1 0)) 2 (fun _ => q 2 0)) 3 (fun _ => q 3 0)) 4 (va_cpy (q 4) (t 4) 0 0 4)) 5 (va_cpy (q 5) (t 5) 0 0 4)) 6 (va_cpy (q 6) (t 6) 0 0 16))) ++ (wT G d mm q)) (va_runV (As := [.ref (d 6), .ref (a 6)]) (rest := []) ⟨hx, hb, hml, hown, hts⟩ (c_X3_copy l G H.size (a 0) (d 6) (q 6) (a 6) (t 6) 16 (by decide)) (cwV 2 hts gX3_become_X3_copy rfl rfl rfl ⟨rfl, hdS_X3_copy⟩ ⟨Nat.le_of_ble_eq_true rfl, Nat.le_of_ble_eq_true rfl⟩) ⟨gh_wb, va_recv hK hP (ci := 3) (q0 := 0) rfl rfl, (gh_wS hE (hP.sub (ws' := [(d 6, .inl (G.2.1, 16, .inl (q 6)))] ++ [(a 6, .inl (G.2.1, 16, .inl (t 6)))]) [10, 3] rfl) (hD.sub (ws' := [(d 6, .inl (G.2.1, 16, .inl (q 6)))] ++ [(a 6, .inl (G.2.1, 16, .inl (t 6)))]) [10, 3] (by decide) rfl)).2⟩ rfl rfl hl.1 rfl (lv_room (Nat.le_of_ble_eq_true rfl)) dX3_become_65 ⟨Nat.le_of_ble_eq_true rfl, Nat.le_of_ble_eq_true rfl⟩) hP hD hS hA [10, 3] [0, 1, 2, 4, 5, 6, 7, 8, 9, 11, 12, 13] [0, 1, 2, 13, 3, 4, 5, 6, 7, 8, 12, 9, 10, 11] rfl rfl (by decide) (by decide) (by decide) [d 6, a 6] [a 0, a 4, a 5, a 6, a 7, a 8, a 9, d 0, d 4, d 5, d 6, d 7, d 8, d 9] rfl rfl rfl rfl rfl (fun H locs hP hD hS => ?_)
  refine lv_aload_n hx hb dX3_become_68 rfl (lv_at hl 0 rfl) ?_
  refine lv_aload_n hx hb dX3_become_69 rfl (lv_at hl 1 rfl) ?_
  refine va_get (D := G.1) (ci := 3) (v := .ref (d 7)) (C := RX3) (T := TX3) (N := 12) hx hb hts (fun w9 h9 => List.mem_cons_of_mem _ (List.mem_append_right _ h9)) hown hK hP 7 rfl rfl 7 (by decide) (hts (.fieldLink RX3 25 "GlassHarpModel$State" "broken" "[I") (List.mem_of_getElem? (i := 8) rfl)) (fun _ h9 => h9) rfl dX3_become_70 ?_
  refine lv_aload_n hx hb dX3_become_73 rfl (lv_at hl 0 rfl) ?_
  refine va_get (D := G.1) (ci := 3) (v := .ref (a 7)) (C := RX3) (T := TX3) (N := 12) hx hb hts (fun w9 h9 => List.mem_cons_of_mem _ (List.mem_append_right _ h9)) hown hK hP 0 rfl rfl 7 (by decide) (hts (.fieldLink RX3 25 "GlassHarpModel$State" "broken" "[I") (List.mem_of_getElem? (i := 8) rfl)) (fun _ h9 => h9) rfl dX3_become_74 ?_
  refine gh_cv (wr := [(a 0, .inr (3, [.int (q 0 0), .int (q 1 0), .int (q 2 0), .int (q 3 0), .ref (a 4), .ref (a 5), .ref (a 6), .ref (a 7), .ref (a 8), .ref (a 9), .int (t 10 0), .ref mm])), (a 4, .inl (G.2.1, 4, .inl (va_cpy (q 4) (t 4) 0 0 4))), (a 5, .inl (G.2.1, 4, .inl (va_cpy (q 5) (t 5) 0 0 4))), (a 6, .inl (G.2.1, 16, .inl (va_cpy (q 6) (t 6) 0 0 16))), (a 8, .inl (G.2.1, 16, .inl (t 8))), (a 9, .inl (G.2.1, 16, .inl (t 9))), (d 0, .inr (3, [.int (q 0 0), .int (q 1 0), .int (q 2 0), .int (q 3 0), .ref (d 4), .ref (d 5), .ref (d 6), .ref (d 7), .ref (d 8), .ref (d 9), .int (q 10 0), .ref mm])), (d 4, .inl (G.2.1, 4, .inl (q 4))), (d 5, .inl (G.2.1, 4, .inl (q 5))), (d 6, .inl (G.2.1, 16, .inl (q 6))), (d 8, .inl (G.2.1, 16, .inl (q 8))), (d 9, .inl (G.2.1, 16, .inl (q 9)))]) (ws' := (wT G a mm (gh_st (gh_st (gh_st (gh_st (gh_st (gh_st (gh_st (gh_st t 0 (fun _ => q 0 0)) 1 (fun _ => q 1 0)) 2 (fun _ => q 2 0)) 3 (fun _ => q 3 0)) 4 (va_cpy (q 4) (t 4) 0 0 4)) 5 (va_cpy (q 5) (t 5) 0 0 4)) 6 (va_cpy (q 6) (t 6) 0 0 16)) 7 (va_cpy (q 7) (t 7) 0 0 16))) ++ (wT G d mm q)) (va_runV (As := [.ref (d 7), .ref (a 7)]) (rest := []) ⟨hx, hb, hml, hown, hts⟩ (c_X3_copy l G H.size (a 0) (d 7) (q 7) (a 7) (t 7) 16 (by decide)) (cwV 2 hts gX3_become_X3_copy rfl rfl rfl ⟨rfl, hdS_X3_copy⟩ ⟨Nat.le_of_ble_eq_true rfl, Nat.le_of_ble_eq_true rfl⟩) ⟨gh_wb, va_recv hK hP (ci := 3) (q0 := 0) rfl rfl, (gh_wS hE (hP.sub (ws' := [(d 7, .inl (G.2.1, 16, .inl (q 7)))] ++ [(a 7, .inl (G.2.1, 16, .inl (t 7)))]) [11, 4] rfl) (hD.sub (ws' := [(d 7, .inl (G.2.1, 16, .inl (q 7)))] ++ [(a 7, .inl (G.2.1, 16, .inl (t 7)))]) [11, 4] (by decide) rfl)).2⟩ rfl rfl hl.1 rfl (lv_room (Nat.le_of_ble_eq_true rfl)) dX3_become_77 ⟨Nat.le_of_ble_eq_true rfl, Nat.le_of_ble_eq_true rfl⟩) hP hD hS hA [11, 4] [0, 1, 2, 3, 5, 6, 7, 8, 9, 10, 12, 13] [0, 1, 2, 3, 13, 4, 5, 6, 7, 8, 9, 12, 10, 11] rfl rfl (by decide) (by decide) (by decide) [d 7, a 7] [a 0, a 4, a 5, a 6, a 7, a 8, a 9, d 0, d 4, d 5, d 6, d 7, d 8, d 9] rfl rfl rfl rfl rfl (fun H locs hP hD hS => ?_)
  refine lv_aload_n hx hb dX3_become_80 rfl (lv_at hl 0 rfl) ?_
  refine lv_aload_n hx hb dX3_become_81 rfl (lv_at hl 1 rfl) ?_
  refine va_get (D := G.1) (ci := 3) (v := .ref (d 8)) (C := RX3) (T := TX3) (N := 12) hx hb hts (fun w9 h9 => List.mem_cons_of_mem _ (List.mem_append_right _ h9)) hown hK hP 7 rfl rfl 8 (by decide) (hts (.fieldLink RX3 28 "GlassHarpModel$State" "ring" "[I") (List.mem_of_getElem? (i := 9) rfl)) (fun _ h9 => h9) rfl dX3_become_82 ?_
  refine lv_aload_n hx hb dX3_become_85 rfl (lv_at hl 0 rfl) ?_
  refine va_get (D := G.1) (ci := 3) (v := .ref (a 8)) (C := RX3) (T := TX3) (N := 12) hx hb hts (fun w9 h9 => List.mem_cons_of_mem _ (List.mem_append_right _ h9)) hown hK hP 0 rfl rfl 8 (by decide) (hts (.fieldLink RX3 28 "GlassHarpModel$State" "ring" "[I") (List.mem_of_getElem? (i := 9) rfl)) (fun _ h9 => h9) rfl dX3_become_86 ?_
  refine gh_cv (wr := [(a 0, .inr (3, [.int (q 0 0), .int (q 1 0), .int (q 2 0), .int (q 3 0), .ref (a 4), .ref (a 5), .ref (a 6), .ref (a 7), .ref (a 8), .ref (a 9), .int (t 10 0), .ref mm])), (a 4, .inl (G.2.1, 4, .inl (va_cpy (q 4) (t 4) 0 0 4))), (a 5, .inl (G.2.1, 4, .inl (va_cpy (q 5) (t 5) 0 0 4))), (a 6, .inl (G.2.1, 16, .inl (va_cpy (q 6) (t 6) 0 0 16))), (a 7, .inl (G.2.1, 16, .inl (va_cpy (q 7) (t 7) 0 0 16))), (a 9, .inl (G.2.1, 16, .inl (t 9))), (d 0, .inr (3, [.int (q 0 0), .int (q 1 0), .int (q 2 0), .int (q 3 0), .ref (d 4), .ref (d 5), .ref (d 6), .ref (d 7), .ref (d 8), .ref (d 9), .int (q 10 0), .ref mm])), (d 4, .inl (G.2.1, 4, .inl (q 4))), (d 5, .inl (G.2.1, 4, .inl (q 5))), (d 6, .inl (G.2.1, 16, .inl (q 6))), (d 7, .inl (G.2.1, 16, .inl (q 7))), (d 9, .inl (G.2.1, 16, .inl (q 9)))]) (ws' := (wT G a mm (gh_st (gh_st (gh_st (gh_st (gh_st (gh_st (gh_st (gh_st (gh_st t 0 (fun _ => q 0 0)) 1 (fun _ => q 1 0)) 2 (fun _ => q 2 0)) 3 (fun _ => q 3 0)) 4 (va_cpy (q 4) (t 4) 0 0 4)) 5 (va_cpy (q 5) (t 5) 0 0 4)) 6 (va_cpy (q 6) (t 6) 0 0 16)) 7 (va_cpy (q 7) (t 7) 0 0 16)) 8 (va_cpy (q 8) (t 8) 0 0 16))) ++ (wT G d mm q)) (va_runV (As := [.ref (d 8), .ref (a 8)]) (rest := []) ⟨hx, hb, hml, hown, hts⟩ (c_X3_copy l G H.size (a 0) (d 8) (q 8) (a 8) (t 8) 16 (by decide)) (cwV 2 hts gX3_become_X3_copy rfl rfl rfl ⟨rfl, hdS_X3_copy⟩ ⟨Nat.le_of_ble_eq_true rfl, Nat.le_of_ble_eq_true rfl⟩) ⟨gh_wb, va_recv hK hP (ci := 3) (q0 := 0) rfl rfl, (gh_wS hE (hP.sub (ws' := [(d 8, .inl (G.2.1, 16, .inl (q 8)))] ++ [(a 8, .inl (G.2.1, 16, .inl (t 8)))]) [12, 5] rfl) (hD.sub (ws' := [(d 8, .inl (G.2.1, 16, .inl (q 8)))] ++ [(a 8, .inl (G.2.1, 16, .inl (t 8)))]) [12, 5] (by decide) rfl)).2⟩ rfl rfl hl.1 rfl (lv_room (Nat.le_of_ble_eq_true rfl)) dX3_become_89 ⟨Nat.le_of_ble_eq_true rfl, Nat.le_of_ble_eq_true rfl⟩) hP hD hS hA [12, 5] [0, 1, 2, 3, 4, 6, 7, 8, 9, 10, 11, 13] [0, 1, 2, 3, 4, 13, 5, 6, 7, 8, 9, 10, 12, 11] rfl rfl (by decide) (by decide) (by decide) [d 8, a 8] [a 0, a 4, a 5, a 6, a 7, a 8, a 9, d 0, d 4, d 5, d 6, d 7, d 8, d 9] rfl rfl rfl rfl rfl (fun H locs hP hD hS => ?_)
  refine lv_aload_n hx hb dX3_become_92 rfl (lv_at hl 0 rfl) ?_
  refine lv_aload_n hx hb dX3_become_93 rfl (lv_at hl 1 rfl) ?_
  refine va_get (D := G.1) (ci := 3) (v := .ref (d 9)) (C := RX3) (T := TX3) (N := 12) hx hb hts (fun w9 h9 => List.mem_cons_of_mem _ (List.mem_append_right _ h9)) hown hK hP 7 rfl rfl 9 (by decide) (hts (.fieldLink RX3 31 "GlassHarpModel$State" "times" "[I") (List.mem_of_getElem? (i := 10) rfl)) (fun _ h9 => h9) rfl dX3_become_94 ?_
  refine lv_aload_n hx hb dX3_become_97 rfl (lv_at hl 0 rfl) ?_
  refine va_get (D := G.1) (ci := 3) (v := .ref (a 9)) (C := RX3) (T := TX3) (N := 12) hx hb hts (fun w9 h9 => List.mem_cons_of_mem _ (List.mem_append_right _ h9)) hown hK hP 0 rfl rfl 9 (by decide) (hts (.fieldLink RX3 31 "GlassHarpModel$State" "times" "[I") (List.mem_of_getElem? (i := 10) rfl)) (fun _ h9 => h9) rfl dX3_become_98 ?_
  refine gh_cv (wr := [(a 0, .inr (3, [.int (q 0 0), .int (q 1 0), .int (q 2 0), .int (q 3 0), .ref (a 4), .ref (a 5), .ref (a 6), .ref (a 7), .ref (a 8), .ref (a 9), .int (t 10 0), .ref mm])), (a 4, .inl (G.2.1, 4, .inl (va_cpy (q 4) (t 4) 0 0 4))), (a 5, .inl (G.2.1, 4, .inl (va_cpy (q 5) (t 5) 0 0 4))), (a 6, .inl (G.2.1, 16, .inl (va_cpy (q 6) (t 6) 0 0 16))), (a 7, .inl (G.2.1, 16, .inl (va_cpy (q 7) (t 7) 0 0 16))), (a 8, .inl (G.2.1, 16, .inl (va_cpy (q 8) (t 8) 0 0 16))), (d 0, .inr (3, [.int (q 0 0), .int (q 1 0), .int (q 2 0), .int (q 3 0), .ref (d 4), .ref (d 5), .ref (d 6), .ref (d 7), .ref (d 8), .ref (d 9), .int (q 10 0), .ref mm])), (d 4, .inl (G.2.1, 4, .inl (q 4))), (d 5, .inl (G.2.1, 4, .inl (q 5))), (d 6, .inl (G.2.1, 16, .inl (q 6))), (d 7, .inl (G.2.1, 16, .inl (q 7))), (d 8, .inl (G.2.1, 16, .inl (q 8)))]) (ws' := (wT G a mm (gh_st (gh_st (gh_st (gh_st (gh_st (gh_st (gh_st (gh_st (gh_st (gh_st t 0 (fun _ => q 0 0)) 1 (fun _ => q 1 0)) 2 (fun _ => q 2 0)) 3 (fun _ => q 3 0)) 4 (va_cpy (q 4) (t 4) 0 0 4)) 5 (va_cpy (q 5) (t 5) 0 0 4)) 6 (va_cpy (q 6) (t 6) 0 0 16)) 7 (va_cpy (q 7) (t 7) 0 0 16)) 8 (va_cpy (q 8) (t 8) 0 0 16)) 9 (va_cpy (q 9) (t 9) 0 0 16))) ++ (wT G d mm q)) (va_runV (As := [.ref (d 9), .ref (a 9)]) (rest := []) ⟨hx, hb, hml, hown, hts⟩ (c_X3_copy l G H.size (a 0) (d 9) (q 9) (a 9) (t 9) 16 (by decide)) (cwV 2 hts gX3_become_X3_copy rfl rfl rfl ⟨rfl, hdS_X3_copy⟩ ⟨Nat.le_of_ble_eq_true rfl, Nat.le_of_ble_eq_true rfl⟩) ⟨gh_wb, va_recv hK hP (ci := 3) (q0 := 0) rfl rfl, (gh_wS hE (hP.sub (ws' := [(d 9, .inl (G.2.1, 16, .inl (q 9)))] ++ [(a 9, .inl (G.2.1, 16, .inl (t 9)))]) [13, 6] rfl) (hD.sub (ws' := [(d 9, .inl (G.2.1, 16, .inl (q 9)))] ++ [(a 9, .inl (G.2.1, 16, .inl (t 9)))]) [13, 6] (by decide) rfl)).2⟩ rfl rfl hl.1 rfl (lv_room (Nat.le_of_ble_eq_true rfl)) dX3_become_101 ⟨Nat.le_of_ble_eq_true rfl, Nat.le_of_ble_eq_true rfl⟩) hP hD hS hA [13, 6] [0, 1, 2, 3, 4, 5, 7, 8, 9, 10, 11, 12] [0, 1, 2, 3, 4, 5, 13, 6, 7, 8, 9, 10, 11, 12] rfl rfl (by decide) (by decide) (by decide) [d 9, a 9] [a 0, a 4, a 5, a 6, a 7, a 8, a 9, d 0, d 4, d 5, d 6, d 7, d 8, d 9] rfl rfl rfl rfl rfl (fun H locs hP hD hS => ?_)
  have hP9 : va_P G.1 vwCl ((wT G a mm (gm_bc q t)) ++ (wT G d mm q)) H := by
    have e9 : gh_st (gh_st (gh_st (gh_st (gh_st (gh_st (gh_st (gh_st (gh_st (gh_st t 0 (fun _ => q 0 0)) 1 (fun _ => q 1 0)) 2 (fun _ => q 2 0)) 3 (fun _ => q 3 0)) 4 (va_cpy (q 4) (t 4) 0 0 4)) 5 (va_cpy (q 5) (t 5) 0 0 4)) 6 (va_cpy (q 6) (t 6) 0 0 16)) 7 (va_cpy (q 7) (t 7) 0 0 16)) 8 (va_cpy (q 8) (t 8) 0 0 16)) 9 (va_cpy (q 9) (t 9) 0 0 16) = gm_bc q t := by first | (simp only [gm_bc, ↓reduceIte, if_true, if_false]; done) | (simp only [gm_bc, ↓reduceIte, if_true, if_false]; rfl) | (simp [gm_bc, ↓reduceIte, if_true, if_false]; done)
    rw [← e9]
    exact hP
  exact W.vret hx hb hr (fun t9 ht hW => ⟨⟨(), rfl, trivial, gh_hp hP9 ht⟩, hS.F ht⟩) hS.2.2 dX3_become_104
set_option maxHeartbeats 4000000 in
set_option maxRecDepth 100000 in
theorem c_X3_tone (l : Launch) (G : gh_G) (a : Nat → Nat) (t : gh_B) (x : Nat → Nat) (s1 : Nat) (s2 : Nat) (r : gh_B) (k : Nat) (hk16 : k < 16) (h4 : ¬ 4 * r 6 k = 0) : Met l yX3_tone wsX3_tone ({ frames := 1, cells := 0, slots := 0, locals := 21 } : Room) (gh_r G [.ref (a 0), .int (nI k)] ((wT G a (x 0) t) ++ (wM G x s1 s2 r))) (vp_Si (fun r9 => r9 = gm_tn r t k)) 0 0 (fun _ => False) := by
  refine Met.ofW (cc := cX3_tone) (maxL := 2) (ret := (some .int)) (by decide) rfl ?_
  intro p e s m args below meth c s₁ B hml hv
  obtain ⟨rfl, hP, hE⟩ := hv
  have hx := B.exec
  have hb := B.bytes
  have hr := B.returns
  have hts := atoms_spec (ws := wsX3_tone) B.pre
  have hown : s.vm.findClass RX3 = some m.cls := findClass_of_methodNamed B.named
  have hlocks := B.notSynchronized
  have hK := hE.1
  have hl := lv_entry ([.ref (a 0), .int (nI k)]) (n := 2) (Nat.le_of_ble_eq_true rfl)
  rw [lg_entry_eq]
  generalize (lg_sl ([.ref (a 0), .int (nI k)]) ++ List.replicate (2 - (lg_sl ([.ref (a 0), .int (nI k)])).length) Slot.unset).toArray = ls at hl ⊢
  have hl : lv_has ls 2 [(0, .ref (a 0)), (1, .int (nI k))] := hl
  refine lv_iconst (v := 0) hx hb dX3_tone_0 (by decide) ?_
  refine lv_bipush (v := 120) hx hb dX3_tone_1 (by decide) ?_
  refine lv_bipush (v := 8) hx hb dX3_tone_3 (by decide) ?_
  refine lv_aload_n hx hb dX3_tone_5 rfl (lv_at hl 0 rfl) ?_
  refine va_get (D := G.1) (ci := 3) (v := .ref (x 0)) (C := RX3) (T := TX3) (N := 12) hx hb hts (fun w9 h9 => List.mem_cons_of_mem _ (List.mem_append_left _ (List.mem_append_right _ h9))) hown hK hP 0 rfl rfl 11 (by decide) (hts (.fieldLink RX3 3 "GlassHarpModel$State" "this$0" "LGlassHarpModel;") (List.mem_of_getElem? (i := 1) rfl)) (fun _ h9 => h9) rfl dX3_tone_6 ?_
  refine va_getN (D := G.1) (ci := 4) (v := .ref (x 6)) (C := RX4) (T := TX4) (N := 9) hx hb hts (fun w9 h9 => List.mem_cons_of_mem _ (List.mem_append_right _ h9)) hown hK hP 7 rfl rfl 6 (by decide) (va_Nw.use rfl (hE.2.2 (RX3, 57, "GlassHarpModel", "size", "[I", RX4) (List.mem_of_getElem? (i := 37) rfl))) (fun _ h9 => h9) rfl dX3_tone_9 ?_
  refine lv_iload_n hx hb dX3_tone_12 rfl (lv_at hl 1 rfl) ?_
  refine gh_ia (f := r 6) hx hb hK hP 10 0 rfl rfl k (rfl) (by omega) (by decide) dX3_tone_13 ?_
  refine lv_imul hx hb dX3_tone_14 ?_
  refine lv_isub hx hb dX3_tone_15 ?_
  refine lv_aload_n hx hb dX3_tone_16 rfl (lv_at hl 0 rfl) ?_
  refine va_get (D := G.1) (ci := 3) (v := .ref (a 6)) (C := RX3) (T := TX3) (N := 12) hx hb hts (fun w9 h9 => List.mem_cons_of_mem _ (List.mem_append_left _ (List.mem_append_right _ h9))) hown hK hP 0 rfl rfl 6 (by decide) (hts (.fieldLink RX3 22 "GlassHarpModel$State" "drops" "[I") (List.mem_of_getElem? (i := 2) rfl)) (fun _ h9 => h9) rfl dX3_tone_17 ?_
  refine lv_iload_n hx hb dX3_tone_20 rfl (lv_at hl 1 rfl) ?_
  refine gh_ia (f := t 6) hx hb hK hP 3 0 rfl rfl k (rfl) (by omega) (by decide) dX3_tone_21 ?_
  refine lv_iconst (v := 4) hx hb dX3_tone_22 (by decide) ?_
  refine lv_aload_n hx hb dX3_tone_23 rfl (lv_at hl 0 rfl) ?_
  refine va_get (D := G.1) (ci := 3) (v := .ref (x 0)) (C := RX3) (T := TX3) (N := 12) hx hb hts (fun w9 h9 => List.mem_cons_of_mem _ (List.mem_append_left _ (List.mem_append_right _ h9))) hown hK hP 0 rfl rfl 11 (by decide) (hts (.fieldLink RX3 3 "GlassHarpModel$State" "this$0" "LGlassHarpModel;") (List.mem_of_getElem? (i := 1) rfl)) (fun _ h9 => h9) rfl dX3_tone_24 ?_
  refine va_getN (D := G.1) (ci := 4) (v := .ref (x 6)) (C := RX4) (T := TX4) (N := 9) hx hb hts (fun w9 h9 => List.mem_cons_of_mem _ (List.mem_append_right _ h9)) hown hK hP 7 rfl rfl 6 (by decide) (va_Nw.use rfl (hE.2.2 (RX3, 57, "GlassHarpModel", "size", "[I", RX4) (List.mem_of_getElem? (i := 37) rfl))) (fun _ h9 => h9) rfl dX3_tone_27 ?_
  refine lv_iload_n hx hb dX3_tone_30 rfl (lv_at hl 1 rfl) ?_
  refine gh_ia (f := r 6) hx hb hK hP 10 0 rfl rfl k (rfl) (by omega) (by decide) dX3_tone_31 ?_
  refine lv_imul hx hb dX3_tone_32 ?_
  refine lv_idiv hx hb dX3_tone_33 (h4) ?_
  refine lv_isub hx hb dX3_tone_34 ?_
  refine va_mmax hx hb (hml.trans hl.1.symm) hown (hts (.methodLink RX3 60 Lib.Math.max.name) (List.mem_of_getElem? (i := 3) rfl)) (hts (.static Lib.Math.max.name) (List.mem_of_getElem? (i := 4) rfl)) (hts (.initialized "java/lang/Math") (List.mem_of_getElem? (i := 5) rfl)) (hts (.code Lib.Math.max.name Lib.Math.max.code 2 (some .int)) (List.mem_of_getElem? (i := 6) rfl)) (Nat.le_of_ble_eq_true rfl) (Nat.le_of_ble_eq_true rfl) (Nat.le_of_ble_eq_true rfl) (Nat.le_of_ble_eq_true rfl) dX3_tone_35 ?_
  refine gh_vv (y := gh_m0 ((120 - (8 * (r 6 k))) - ((t 6 k) / (4 * (r 6 k))))) (rfl) ?_
  exact W.iret (v := gh_m0 ((120 - (8 * (r 6 k))) - ((t 6 k) / (4 * (r 6 k))))) hx hb hr (fun t9 ht hW => ⟨gh_m0 ((120 - (8 * (r 6 k))) - ((t 6 k) / (4 * (r 6 k)))), rfl, by first | (simp only [gm_tn, ↓reduceIte, if_true, if_false]; done) | (simp only [gm_tn, ↓reduceIte, if_true, if_false]; rfl) | (simp [gm_tn, ↓reduceIte, if_true, if_false]; done), ht⟩) (fun q hq => absurd hq List.not_mem_nil) dX3_tone_38
set_option maxHeartbeats 4000000 in
set_option maxRecDepth 100000 in
theorem c_X3_off (l : Launch) (G : gh_G) (a : Nat → Nat) (t : gh_B) (x : Nat → Nat) (s1 : Nat) (s2 : Nat) (r : gh_B) (k : Nat) (u : Int32) (hk16 : k < 16) (h4 : ¬ 4 * r 6 k = 0) : Met l yX3_off wsX3_off ({ frames := 2, cells := 0, slots := 0, locals := 42 } : Room) (gh_r G [.ref (a 0), .int (nI k), .int u] ((wT G a (x 0) t) ++ (wM G x s1 s2 r))) (vp_Si (fun r9 => r9 = gm_of r t k u)) 0 0 (fun _ => False) := by
  refine Met.ofW (cc := cX3_off) (maxL := 3) (ret := (some .int)) (by decide) rfl ?_
  intro p e s m args below meth c s₁ B hml hv
  obtain ⟨rfl, hP, hE⟩ := hv
  have hx := B.exec
  have hb := B.bytes
  have hr := B.returns
  have hts := atoms_spec (ws := wsX3_off) B.pre
  have hown : s.vm.findClass RX3 = some m.cls := findClass_of_methodNamed B.named
  have hlocks := B.notSynchronized
  have hK := hE.1
  have hl := lv_entry ([.ref (a 0), .int (nI k), .int u]) (n := 3) (Nat.le_of_ble_eq_true rfl)
  rw [lg_entry_eq]
  generalize (lg_sl ([.ref (a 0), .int (nI k), .int u]) ++ List.replicate (3 - (lg_sl ([.ref (a 0), .int (nI k), .int u])).length) Slot.unset).toArray = ls at hl ⊢
  have hl : lv_has ls 3 [(0, .ref (a 0)), (1, .int (nI k)), (2, .int u)] := hl
  refine lv_aload_n hx hb dX3_off_0 rfl (lv_at hl 0 rfl) ?_
  refine lv_iload_n hx hb dX3_off_1 rfl (lv_at hl 1 rfl) ?_
  refine gh_ci (va_runV (As := [.int (nI k)]) (rest := []) ⟨hx, hb, hml, hown, hts⟩ (c_X3_tone l G a t x s1 s2 r k (hk16) (h4)) (cwV 1 hts gX3_off_X3_tone rfl rfl rfl ⟨rfl, hdS_X3_tone⟩ ⟨Nat.le_of_ble_eq_true rfl, Nat.le_of_ble_eq_true rfl⟩) (gh_rV hE hP (ci := 3) (q0 := 0) rfl rfl) rfl rfl hl.1 rfl (lv_room (Nat.le_of_ble_eq_true rfl)) dX3_off_2 ⟨Nat.le_of_ble_eq_true rfl, Nat.le_of_ble_eq_true rfl⟩) ?_
  refine lv_iload_n hx hb dX3_off_5 rfl (lv_at hl 2 rfl) ?_
  refine lv_isub hx hb dX3_off_6 ?_
  refine va_mabs hx hb (hml.trans hl.1.symm) hown (hts (.methodLink RX3 70 Lib.Math.abs.name) (List.mem_of_getElem? (i := 1) rfl)) (hts (.static Lib.Math.abs.name) (List.mem_of_getElem? (i := 2) rfl)) (hts (.initialized "java/lang/Math") (List.mem_of_getElem? (i := 3) rfl)) (hts (.code Lib.Math.abs.name Lib.Math.abs.code 1 (some .int)) (List.mem_of_getElem? (i := 4) rfl)) (Nat.le_of_ble_eq_true rfl) (Nat.le_of_ble_eq_true rfl) (Nat.le_of_ble_eq_true rfl) (Nat.le_of_ble_eq_true rfl) dX3_off_7 ?_
  refine gh_vv (y := gm_ab ((gm_tn r t k) - u)) (rfl) ?_
  exact W.iret (v := gm_ab ((gm_tn r t k) - u)) hx hb hr (fun t9 ht hW => ⟨gm_ab ((gm_tn r t k) - u), rfl, by first | (simp only [gm_of, ↓reduceIte, if_true, if_false]; done) | (simp only [gm_of, ↓reduceIte, if_true, if_false]; rfl) | (simp [gm_of, ↓reduceIte, if_true, if_false]; done), ht⟩) (fun q hq => absurd hq List.not_mem_nil) dX3_off_10
set_option maxHeartbeats 4000000 in
set_option maxRecDepth 100000 in
theorem c_X3_cracked (l : Launch) (G : gh_G) (a : Nat → Nat) (t : gh_B) (x : Nat → Nat) (s1 : Nat) (s2 : Nat) (r : gh_B) (n : Nat) (hn : r 4 0 = nI n) (hn16 : n ≤ 16) : Met l yX3_cracked wsX3_cracked ({ frames := 0, cells := 0, slots := 0, locals := 0 } : Room) (gh_r G [.ref (a 0)] ((wT G a (x 0) t) ++ (wM G x s1 s2 r))) (vp_Si (fun r9 => r9 = gh_sm (t 7) n)) 0 0 (fun _ => False) := by
  refine Met.ofW (cc := cX3_cracked) (maxL := 3) (ret := (some .int)) (by decide) rfl ?_
  intro p e s m args below meth c s₁ B hml hv
  obtain ⟨rfl, hP, hE⟩ := hv
  have hx := B.exec
  have hb := B.bytes
  have hr := B.returns
  have hts := atoms_spec (ws := wsX3_cracked) B.pre
  have hown : s.vm.findClass RX3 = some m.cls := findClass_of_methodNamed B.named
  have hlocks := B.notSynchronized
  have hK := hE.1
  have hl := lv_entry ([.ref (a 0)]) (n := 3) (Nat.le_of_ble_eq_true rfl)
  rw [lg_entry_eq]
  generalize (lg_sl ([.ref (a 0)]) ++ List.replicate (3 - (lg_sl ([.ref (a 0)])).length) Slot.unset).toArray = ls at hl ⊢
  have hl : lv_has ls 3 [(0, .ref (a 0))] := hl
  refine lv_iconst (v := 0) hx hb dX3_cracked_0 (by decide) ?_
  refine lv_istore_n (lv' := [(1, .int 0), (0, .ref (a 0))]) hx hb dX3_cracked_1 rfl hl (by decide) rfl (fun ls hl => ?_)
  refine lv_iconst (v := 0) hx hb dX3_cracked_2 (by decide) ?_
  refine lv_istore_n (lv' := [(2, .int 0), (1, .int 0), (0, .ref (a 0))]) hx hb dX3_cracked_3 rfl hl (by decide) rfl (fun ls hl => ?_)
  have J4 : ∀ (x1 : Int32), (x1 = gh_sm (t 7) 0) → ∀ (ls : Array Slot), lv_has ls 3 [(0, .ref (a 0)), (1, .int x1), (2, .int (nI 0))] → W p l e (headSpec wsX3_cracked ({ frames := 0, cells := 0, slots := 0, locals := 0 } : Room)).room s m ([.ref (a 0)] : List Value).toArray below meth c s.heap [] 0 0 (MQ below (vp_Si (fun r9 => r9 = gh_sm (t 7) n)) ([.ref (a 0)] : List Value).toArray s 0 0 (fun _ => False)) (F0 m 4 ls []) := by
    refine gh_loop (n := n) (i0 := 0) (Nat.zero_le _) (P := fun i => ∀ (x1 : Int32), (x1 = gh_sm (t 7) i) → ∀ (ls : Array Slot), lv_has ls 3 [(0, .ref (a 0)), (1, .int x1), (2, .int (nI i))] → W p l e (headSpec wsX3_cracked ({ frames := 0, cells := 0, slots := 0, locals := 0 } : Room)).room s m ([.ref (a 0)] : List Value).toArray below meth c s.heap [] 0 0 (MQ below (vp_Si (fun r9 => r9 = gh_sm (t 7) n)) ([.ref (a 0)] : List Value).toArray s 0 0 (fun _ => False)) (F0 m 4 ls [])) ?_ ?_
    · skip
      intro x1 e1 ls hl
      subst e1
      refine lv_iload_n hx hb dX3_cracked_4 rfl (lv_at hl 2 rfl) ?_
      refine lv_aload_n hx hb dX3_cracked_5 rfl (lv_at hl 0 rfl) ?_
      refine va_get (D := G.1) (ci := 3) (v := .ref (x 0)) (C := RX3) (T := TX3) (N := 12) hx hb hts (fun w9 h9 => List.mem_cons_of_mem _ (List.mem_append_left _ (List.mem_append_right _ h9))) hown hK hP 0 rfl rfl 11 (by decide) (hts (.fieldLink RX3 3 "GlassHarpModel$State" "this$0" "LGlassHarpModel;") (List.mem_of_getElem? (i := 1) rfl)) (fun _ h9 => h9) rfl dX3_cracked_6 ?_
      refine va_getN (D := G.1) (ci := 4) (v := .int (r 4 0)) (C := RX4) (T := TX4) (N := 9) hx hb hts (fun w9 h9 => List.mem_cons_of_mem _ (List.mem_append_right _ h9)) hown hK hP 7 rfl rfl 4 (by decide) (va_Nw.use rfl (hE.2.2 (RX3, 73, "GlassHarpModel", "glasses", "I", RX4) (List.mem_of_getElem? (i := 35) rfl))) (fun _ h9 => h9) rfl dX3_cracked_9 ?_
      refine gh_vv (y := nI n) (hn) ?_
      refine lv_icmp_ge (tgt := 30) hx hb dX3_cracked_12 (by decide) (fun c_1 => ?_) (fun c_1 => absurd (nI_le (Nat.le_refl _) (Nat.lt_of_le_of_lt hn16 (by decide))) c_1)
      refine lv_iload_n hx hb dX3_cracked_30 rfl (lv_at hl 1 rfl) ?_
      exact W.iret (v := gh_sm (t 7) n) hx hb hr (fun t9 ht hW => ⟨gh_sm (t 7) n, rfl, rfl, ht⟩) (fun q hq => absurd hq List.not_mem_nil) dX3_cracked_31
    · intro i hi_lo hi ih
      intro x1 e1 ls hl
      subst e1
      refine lv_iload_n hx hb dX3_cracked_4 rfl (lv_at hl 2 rfl) ?_
      refine lv_aload_n hx hb dX3_cracked_5 rfl (lv_at hl 0 rfl) ?_
      refine va_get (D := G.1) (ci := 3) (v := .ref (x 0)) (C := RX3) (T := TX3) (N := 12) hx hb hts (fun w9 h9 => List.mem_cons_of_mem _ (List.mem_append_left _ (List.mem_append_right _ h9))) hown hK hP 0 rfl rfl 11 (by decide) (hts (.fieldLink RX3 3 "GlassHarpModel$State" "this$0" "LGlassHarpModel;") (List.mem_of_getElem? (i := 1) rfl)) (fun _ h9 => h9) rfl dX3_cracked_6 ?_
      refine va_getN (D := G.1) (ci := 4) (v := .int (r 4 0)) (C := RX4) (T := TX4) (N := 9) hx hb hts (fun w9 h9 => List.mem_cons_of_mem _ (List.mem_append_right _ h9)) hown hK hP 7 rfl rfl 4 (by decide) (va_Nw.use rfl (hE.2.2 (RX3, 73, "GlassHarpModel", "glasses", "I", RX4) (List.mem_of_getElem? (i := 35) rfl))) (fun _ h9 => h9) rfl dX3_cracked_9 ?_
      refine gh_vv (y := nI n) (hn) ?_
      refine lv_icmp_ge (tgt := 30) hx hb dX3_cracked_12 (by decide) (fun c_2 => absurd c_2 (nI_ge hi (Nat.lt_of_le_of_lt hn16 (by decide)))) (fun c_2 => ?_)
      refine lv_iload_n hx hb dX3_cracked_15 rfl (lv_at hl 1 rfl) ?_
      refine lv_aload_n hx hb dX3_cracked_16 rfl (lv_at hl 0 rfl) ?_
      refine va_get (D := G.1) (ci := 3) (v := .ref (a 7)) (C := RX3) (T := TX3) (N := 12) hx hb hts (fun w9 h9 => List.mem_cons_of_mem _ (List.mem_append_left _ (List.mem_append_right _ h9))) hown hK hP 0 rfl rfl 7 (by decide) (hts (.fieldLink RX3 25 "GlassHarpModel$State" "broken" "[I") (List.mem_of_getElem? (i := 2) rfl)) (fun _ h9 => h9) rfl dX3_cracked_17 ?_
      refine lv_iload_n hx hb dX3_cracked_20 rfl (lv_at hl 2 rfl) ?_
      refine gh_ia (f := t 7) hx hb hK hP 4 0 rfl rfl i (rfl) (by omega) (by decide) dX3_cracked_21 ?_
      refine lv_iadd hx hb dX3_cracked_22 ?_
      refine lv_istore_n (lv' := [(1, .int ((gh_sm (t 7) i) + (t 7 i))), (0, .ref (a 0)), (2, .int (nI i))]) hx hb dX3_cracked_23 rfl hl (by decide) rfl (fun ls hl => ?_)
      refine lv_iinc (v := nI (i + 1)) (lv' := [(2, .int (nI (i + 1))), (1, .int ((gh_sm (t 7) i) + (t 7 i))), (0, .ref (a 0))]) hx hb dX3_cracked_24 hl (k := 2) rfl (nI_1 i) (by decide) rfl (fun ls hl => ?_)
      refine lv_goto (tgt := 4) hx hb dX3_cracked_27 (by decide) ?_
      exact ih ((gh_sm (t 7) i) + (t 7 i)) (by first | (simp only [gh_sm, c_2, ↓reduceIte, if_true, if_false]; done) | (simp only [gh_sm]; simp only [c_2, ↓reduceIte, if_true, if_false]; done) | (simp [gh_sm, c_2, ↓reduceIte, if_true, if_false]; done)) _ (lv_sub hl [2, 1, 0] rfl)
  exact J4 0 (by first | (simp only [gh_sm, ↓reduceIte, if_true, if_false]; done) | (simp only [gh_sm, ↓reduceIte, if_true, if_false]; rfl) | (simp [gh_sm, ↓reduceIte, if_true, if_false]; done)) _ (lv_sub hl [2, 1, 0] rfl)
set_option maxHeartbeats 4000000 in
set_option maxRecDepth 100000 in
theorem c_X3_isAgainst (l : Launch) (G : gh_G) (a : Nat → Nat) (t : gh_B) (x : Nat → Nat) (s1 : Nat) (s2 : Nat) (r : gh_B) (g : Nat) (j : Nat) (hg16 : g < 16) (hg4 : ¬ 4 * r 6 g = 0) (hj16 : j < 16) (hj4 : ¬ 4 * r 6 j = 0) : Met l yX3_isAgainst wsX3_isAgainst ({ frames := 2, cells := 0, slots := 0, locals := 42 } : Room) (gh_r G [.ref (a 0), .int (nI g), .int (nI j)] ((wT G a (x 0) t) ++ (wM G x s1 s2 r))) (vp_Si (fun r9 => r9 = gm_ag r t g j)) 0 0 (fun _ => False) := by
  refine Met.ofW (cc := cX3_isAgainst) (maxL := 4) (ret := (some .boolean)) (by decide) rfl ?_
  intro p e s m args below meth c s₁ B hml hv
  obtain ⟨rfl, hP, hE⟩ := hv
  have hx := B.exec
  have hb := B.bytes
  have hr := B.returns
  have hts := atoms_spec (ws := wsX3_isAgainst) B.pre
  have hown : s.vm.findClass RX3 = some m.cls := findClass_of_methodNamed B.named
  have hlocks := B.notSynchronized
  have hK := hE.1
  have hl := lv_entry ([.ref (a 0), .int (nI g), .int (nI j)]) (n := 4) (Nat.le_of_ble_eq_true rfl)
  rw [lg_entry_eq]
  generalize (lg_sl ([.ref (a 0), .int (nI g), .int (nI j)]) ++ List.replicate (4 - (lg_sl ([.ref (a 0), .int (nI g), .int (nI j)])).length) Slot.unset).toArray = ls at hl ⊢
  have hl : lv_has ls 4 [(0, .ref (a 0)), (1, .int (nI g)), (2, .int (nI j))] := hl
  refine lv_aload_n hx hb dX3_isAgainst_0 rfl (lv_at hl 0 rfl) ?_
  refine lv_iload_n hx hb dX3_isAgainst_1 rfl (lv_at hl 1 rfl) ?_
  refine gh_ci (va_runV (As := [.int (nI g)]) (rest := []) ⟨hx, hb, hml, hown, hts⟩ (c_X3_tone l G a t x s1 s2 r g (hg16) (hg4)) (cwV 1 hts gX3_isAgainst_X3_tone rfl rfl rfl ⟨rfl, hdS_X3_tone⟩ ⟨Nat.le_of_ble_eq_true rfl, Nat.le_of_ble_eq_true rfl⟩) (gh_rV hE hP (ci := 3) (q0 := 0) rfl rfl) rfl rfl hl.1 rfl (lv_room (Nat.le_of_ble_eq_true rfl)) dX3_isAgainst_2 ⟨Nat.le_of_ble_eq_true rfl, Nat.le_of_ble_eq_true rfl⟩) ?_
  refine lv_aload_n hx hb dX3_isAgainst_5 rfl (lv_at hl 0 rfl) ?_
  refine lv_iload_n hx hb dX3_isAgainst_6 rfl (lv_at hl 2 rfl) ?_
  refine gh_ci (va_runV (As := [.int (nI j)]) (rest := [.int (gm_tn r t g)]) ⟨hx, hb, hml, hown, hts⟩ (c_X3_tone l G a t x s1 s2 r j (hj16) (hj4)) (cwV 1 hts gX3_isAgainst_X3_tone rfl rfl rfl ⟨rfl, hdS_X3_tone⟩ ⟨Nat.le_of_ble_eq_true rfl, Nat.le_of_ble_eq_true rfl⟩) (gh_rV hE hP (ci := 3) (q0 := 0) rfl rfl) rfl rfl hl.1 rfl (lv_room (Nat.le_of_ble_eq_true rfl)) dX3_isAgainst_7 ⟨Nat.le_of_ble_eq_true rfl, Nat.le_of_ble_eq_true rfl⟩) ?_
  refine lv_isub hx hb dX3_isAgainst_10 ?_
  refine va_mabs hx hb (hml.trans hl.1.symm) hown (hts (.methodLink RX3 70 Lib.Math.abs.name) (List.mem_of_getElem? (i := 1) rfl)) (hts (.static Lib.Math.abs.name) (List.mem_of_getElem? (i := 2) rfl)) (hts (.initialized "java/lang/Math") (List.mem_of_getElem? (i := 3) rfl)) (hts (.code Lib.Math.abs.name Lib.Math.abs.code 1 (some .int)) (List.mem_of_getElem? (i := 4) rfl)) (Nat.le_of_ble_eq_true rfl) (Nat.le_of_ble_eq_true rfl) (Nat.le_of_ble_eq_true rfl) (Nat.le_of_ble_eq_true rfl) dX3_isAgainst_11 ?_
  refine gh_vv (y := gm_ab ((gm_tn r t g) - (gm_tn r t j))) (rfl) ?_
  refine lv_istore_n (lv' := [(3, .int (gm_ab ((gm_tn r t g) - (gm_tn r t j)))), (0, .ref (a 0)), (1, .int (nI g)), (2, .int (nI j))]) hx hb dX3_isAgainst_14 rfl hl (by decide) rfl (fun ls hl => ?_)
  refine lv_aload_n hx hb dX3_isAgainst_15 rfl (lv_at hl 1 rfl) ?_
  refine va_get (D := G.1) (ci := 3) (v := .ref (a 8)) (C := RX3) (T := TX3) (N := 12) hx hb hts (fun w9 h9 => List.mem_cons_of_mem _ (List.mem_append_left _ (List.mem_append_right _ h9))) hown hK hP 0 rfl rfl 8 (by decide) (hts (.fieldLink RX3 28 "GlassHarpModel$State" "ring" "[I") (List.mem_of_getElem? (i := 5) rfl)) (fun _ h9 => h9) rfl dX3_isAgainst_16 ?_
  refine lv_iload_n hx hb dX3_isAgainst_19 rfl (lv_at hl 2 rfl) ?_
  refine gh_ia (f := t 8) hx hb hK hP 5 0 rfl rfl g (rfl) (by omega) (by decide) dX3_isAgainst_20 ?_
  refine lv_if_le (tgt := 47) hx hb dX3_isAgainst_21 (by decide) (fun c_1 => ?_) (fun c_1 => ?_)
  · skip
    refine lv_iconst (v := 0) hx hb dX3_isAgainst_47 (by decide) ?_
    exact W.zret (v := 0) hx hb hr (by decide) (fun t9 ht hW => ⟨0, rfl, by first | (simp only [gm_ag, c_1, ↓reduceIte, if_true, if_false]; done) | (simp only [gm_ag]; simp only [c_1, ↓reduceIte, if_true, if_false]; done) | (simp [gm_ag, c_1, ↓reduceIte, if_true, if_false]; done), ht⟩) (fun q hq => absurd hq List.not_mem_nil) dX3_isAgainst_48
  · skip
    refine lv_aload_n hx hb dX3_isAgainst_24 rfl (lv_at hl 1 rfl) ?_
    refine va_get (D := G.1) (ci := 3) (v := .ref (a 8)) (C := RX3) (T := TX3) (N := 12) hx hb hts (fun w9 h9 => List.mem_cons_of_mem _ (List.mem_append_left _ (List.mem_append_right _ h9))) hown hK hP 0 rfl rfl 8 (by decide) (hts (.fieldLink RX3 28 "GlassHarpModel$State" "ring" "[I") (List.mem_of_getElem? (i := 5) rfl)) (fun _ h9 => h9) rfl dX3_isAgainst_25 ?_
    refine lv_iload_n hx hb dX3_isAgainst_28 rfl (lv_at hl 3 rfl) ?_
    refine gh_ia (f := t 8) hx hb hK hP 5 0 rfl rfl j (rfl) (by omega) (by decide) dX3_isAgainst_29 ?_
    refine lv_if_le (tgt := 47) hx hb dX3_isAgainst_30 (by decide) (fun c_2 => ?_) (fun c_2 => ?_)
    · skip
      refine lv_iconst (v := 0) hx hb dX3_isAgainst_47 (by decide) ?_
      exact W.zret (v := 0) hx hb hr (by decide) (fun t9 ht hW => ⟨0, rfl, by first | (simp only [gm_ag, c_1, c_2, ↓reduceIte, if_true, if_false]; done) | (simp only [gm_ag]; simp only [c_1, c_2, ↓reduceIte, if_true, if_false]; done) | (simp [gm_ag, c_1, c_2, ↓reduceIte, if_true, if_false]; done), ht⟩) (fun q hq => absurd hq List.not_mem_nil) dX3_isAgainst_48
    · skip
      refine lv_iload_n hx hb dX3_isAgainst_33 rfl (lv_at hl 0 rfl) ?_
      refine lv_iconst (v := 1) hx hb dX3_isAgainst_34 (by decide) ?_
      refine lv_icmp_eq (tgt := 43) hx hb dX3_isAgainst_35 (by decide) (fun c_3 => ?_) (fun c_3 => ?_)
      · skip
        refine lv_iconst (v := 1) hx hb dX3_isAgainst_43 (by decide) ?_
        refine lv_goto (tgt := 48) hx hb dX3_isAgainst_44 (by decide) ?_
        exact W.zret (v := 1) hx hb hr (by decide) (fun t9 ht hW => ⟨1, rfl, by first | (simp only [gm_ag, c_1, c_2, c_3, ↓reduceIte, if_true, if_false]; done) | (simp only [gm_ag]; simp only [c_1, c_2, c_3, ↓reduceIte, if_true, if_false]; done) | (simp [gm_ag, c_1, c_2, c_3, ↓reduceIte, if_true, if_false]; done), ht⟩) (fun q hq => absurd hq List.not_mem_nil) dX3_isAgainst_48
      · skip
        refine lv_iload_n hx hb dX3_isAgainst_38 rfl (lv_at hl 0 rfl) ?_
        refine lv_iconst (v := 2) hx hb dX3_isAgainst_39 (by decide) ?_
        refine lv_icmp_ne (tgt := 47) hx hb dX3_isAgainst_40 (by decide) (fun c_4 => ?_) (fun c_4 => ?_)
        · skip
          refine lv_iconst (v := 0) hx hb dX3_isAgainst_47 (by decide) ?_
          exact W.zret (v := 0) hx hb hr (by decide) (fun t9 ht hW => ⟨0, rfl, by first | (simp only [gm_ag, c_1, c_2, c_3, c_4, ↓reduceIte, if_true, if_false]; done) | (simp only [gm_ag]; simp only [c_1, c_2, c_3, c_4, ↓reduceIte, if_true, if_false]; done) | (simp [gm_ag, c_1, c_2, c_3, c_4, ↓reduceIte, if_true, if_false]; done), ht⟩) (fun q hq => absurd hq List.not_mem_nil) dX3_isAgainst_48
        · skip
          refine lv_iconst (v := 1) hx hb dX3_isAgainst_43 (by decide) ?_
          refine lv_goto (tgt := 48) hx hb dX3_isAgainst_44 (by decide) ?_
          exact W.zret (v := 1) hx hb hr (by decide) (fun t9 ht hW => ⟨1, rfl, by first | (simp only [gm_ag, c_1, c_2, c_3, c_4, ↓reduceIte, if_true, if_false]; done) | (simp only [gm_ag]; simp only [c_1, c_2, c_3, c_4, ↓reduceIte, if_true, if_false]; done) | (simp [gm_ag, c_1, c_2, c_3, c_4, ↓reduceIte, if_true, if_false]; done), ht⟩) (fun q hq => absurd hq List.not_mem_nil) dX3_isAgainst_48
set_option maxHeartbeats 4000000 in
set_option maxRecDepth 100000 in
theorem c_X3_come (l : Launch) (G : gh_G) (sz : Nat) (a : Nat → Nat) (t : gh_B) (x : Nat → Nat) (s1 : Nat) (s2 : Nat) (r : gh_B) (n : Nat) (u : Int32) (f : Int32) (hn : r 4 0 = nI n) (hn16 : n ≤ 16) (hsz : ∀ j : Nat, j < n → ¬ 4 * r 6 j = 0) (hrw : ∀ j : Nat, j < n → vp_in (r 5 j) 4) : Met l yX3_come wsX3_come ({ frames := 3, cells := 0, slots := 0, locals := 64 } : Room) (gh_w G [.ref (a 0), .int u, .int f] ((wT G a (x 0) t) ++ (wM G x s1 s2 r)) sz) (va_Qv (fun _ : Unit => True) (fun _ t9 => va_P G.1 vwCl ((wT G a (x 0) (gm_cm r t n u f)) ++ (wM G x s1 s2 r)) t9.heap) (va_A ((wT G a (x 0) t) ++ (wM G x s1 s2 r)) sz)) 0 0 (va_A ((wT G a (x 0) t) ++ (wM G x s1 s2 r)) sz) := by
  refine Met.ofW (cc := cX3_come) (maxL := 5) (ret := none) (by decide) rfl ?_
  intro p e s m args below meth c s₁ B hml hv
  obtain ⟨rfl, hsz, hP, hE, hD0⟩ := hv
  have hx := B.exec
  have hb := B.bytes
  have hr := B.returns
  have hts := atoms_spec (ws := wsX3_come) B.pre
  have hown : s.vm.findClass RX3 = some m.cls := findClass_of_methodNamed B.named
  have hlocks := B.notSynchronized
  have hK := hE.1
  subst hsz
  have hD := hD0.self (sz := s.heap.size)
  generalize hAe : va_A ((wT G a (x 0) t) ++ (wM G x s1 s2 r)) s.heap.size = A at hD ⊢
  have hA : ∀ q : Nat, s.heap.size ≤ q → A q := fun q h => by rw [← hAe]; exact Or.inr h
  have hS : va_S A s.heap s.heap [] := va_S.rf
  have hl := lv_entry ([.ref (a 0), .int u, .int f]) (n := 5) (Nat.le_of_ble_eq_true rfl)
  rw [lg_entry_eq]
  generalize (lg_sl ([.ref (a 0), .int u, .int f]) ++ List.replicate (5 - (lg_sl ([.ref (a 0), .int u, .int f])).length) Slot.unset).toArray = ls at hl ⊢
  have hl : lv_has ls 5 [(0, .ref (a 0)), (1, .int u), (2, .int f)] := hl
  refine lv_iconst (v := (-1)) hx hb dX3_come_0 (by decide) ?_
  refine lv_istore_n (lv' := [(3, .int (-1)), (0, .ref (a 0)), (1, .int u), (2, .int f)]) hx hb dX3_come_1 rfl hl (by decide) rfl (fun ls hl => ?_)
  refine lv_iconst (v := 0) hx hb dX3_come_2 (by decide) ?_
  refine lv_istore (lv' := [(4, .int 0), (3, .int (-1)), (0, .ref (a 0)), (1, .int u), (2, .int f)]) hx hb dX3_come_3 hl (by decide) rfl (fun ls hl => ?_)
  have J5 : ∀ (x3 : Int32), (x3 = gm_bs r t u f 0) → (gm_bo x3 0) → ∀ (H : Heap) (locs : List Loc), va_P G.1 vwCl ((wT G a (x 0) t) ++ (wM G x s1 s2 r)) H → va_D A ((wT G a (x 0) t) ++ (wM G x s1 s2 r)) → va_S A s.heap H locs → ∀ (ls : Array Slot), lv_has ls 5 [(0, .ref (a 0)), (1, .int u), (2, .int f), (3, .int x3), (4, .int (nI 0))] → W p l e (headSpec wsX3_come ({ frames := 3, cells := 0, slots := 0, locals := 64 } : Room)).room s m ([.ref (a 0), .int u, .int f] : List Value).toArray below meth c H locs 0 0 (MQ below (va_Qv (fun _ : Unit => True) (fun _ t9 => va_P G.1 vwCl ((wT G a (x 0) (gm_cm r t n u f)) ++ (wM G x s1 s2 r)) t9.heap) A) ([.ref (a 0), .int u, .int f] : List Value).toArray s 0 0 A) (F0 m 5 ls []) := by
    refine gh_loop (n := n) (i0 := 0) (Nat.zero_le _) (P := fun i => ∀ (x3 : Int32), (x3 = gm_bs r t u f i) → (gm_bo x3 i) → ∀ (H : Heap) (locs : List Loc), va_P G.1 vwCl ((wT G a (x 0) t) ++ (wM G x s1 s2 r)) H → va_D A ((wT G a (x 0) t) ++ (wM G x s1 s2 r)) → va_S A s.heap H locs → ∀ (ls : Array Slot), lv_has ls 5 [(0, .ref (a 0)), (1, .int u), (2, .int f), (3, .int x3), (4, .int (nI i))] → W p l e (headSpec wsX3_come ({ frames := 3, cells := 0, slots := 0, locals := 64 } : Room)).room s m ([.ref (a 0), .int u, .int f] : List Value).toArray below meth c H locs 0 0 (MQ below (va_Qv (fun _ : Unit => True) (fun _ t9 => va_P G.1 vwCl ((wT G a (x 0) (gm_cm r t n u f)) ++ (wM G x s1 s2 r)) t9.heap) A) ([.ref (a 0), .int u, .int f] : List Value).toArray s 0 0 A) (F0 m 5 ls [])) ?_ ?_
    · skip
      intro x3 E3 hbo H locs hP hD hS ls hl
      refine lv_iload hx hb dX3_come_5 (lv_at hl 4 rfl) ?_
      refine lv_aload_n hx hb dX3_come_7 rfl (lv_at hl 0 rfl) ?_
      refine va_get (D := G.1) (ci := 3) (v := .ref (x 0)) (C := RX3) (T := TX3) (N := 12) hx hb hts (fun w9 h9 => List.mem_cons_of_mem _ (List.mem_append_left _ (List.mem_append_right _ h9))) hown hK hP 0 rfl rfl 11 (by decide) (hts (.fieldLink RX3 3 "GlassHarpModel$State" "this$0" "LGlassHarpModel;") (List.mem_of_getElem? (i := 1) rfl)) (fun _ h9 => h9) rfl dX3_come_8 ?_
      refine va_getN (D := G.1) (ci := 4) (v := .int (r 4 0)) (C := RX4) (T := TX4) (N := 9) hx hb hts (fun w9 h9 => List.mem_cons_of_mem _ (List.mem_append_right _ h9)) hown hK hP 7 rfl rfl 4 (by decide) (va_Nw.use rfl (hE.2.2 (RX3, 73, "GlassHarpModel", "glasses", "I", RX4) (List.mem_of_getElem? (i := 35) rfl))) (fun _ h9 => h9) rfl dX3_come_11 ?_
      refine gh_vv (y := nI n) (hn) ?_
      refine lv_icmp_ge (tgt := 105) hx hb dX3_come_14 (by decide) (fun c_1 => ?_) (fun c_1 => absurd (nI_le (Nat.le_refl _) (Nat.lt_of_le_of_lt hn16 (by decide))) c_1)
      refine lv_iload_n hx hb dX3_come_105 rfl (lv_at hl 3 rfl) ?_
      refine lv_iconst (v := (-1)) hx hb dX3_come_106 (by decide) ?_
      refine lv_icmp_ne (tgt := 121) hx hb dX3_come_107 (by decide) (fun c_2 => ?_) (fun c_2 => ?_)
      · skip
        obtain ⟨kb, hkb, ekb⟩ := gm_bo_k hbo c_2
        have ekc : x3.toNatClampNeg = kb := by rw [ekb, nI_clamp (Nat.lt_trans (Nat.lt_of_lt_of_le hkb hn16) (by decide))]
        have J155 : ∀ (B : gh_B), (B = gm_c1 r t kb u) → ∀ (H : Heap) (locs : List Loc), va_P G.1 vwCl ((wT G a (x 0) B) ++ (wM G x s1 s2 r)) H → va_D A ((wT G a (x 0) B) ++ (wM G x s1 s2 r)) → va_S A s.heap H locs → ∀ (ls : Array Slot), lv_has ls 5 [(0, .ref (a 0)), (1, .int u), (2, .int f), (3, .int x3)] → W p l e (headSpec wsX3_come ({ frames := 3, cells := 0, slots := 0, locals := 64 } : Room)).room s m ([.ref (a 0), .int u, .int f] : List Value).toArray below meth c H locs 0 0 (MQ below (va_Qv (fun _ : Unit => True) (fun _ t9 => va_P G.1 vwCl ((wT G a (x 0) (gm_cm r t n u f)) ++ (wM G x s1 s2 r)) t9.heap) A) ([.ref (a 0), .int u, .int f] : List Value).toArray s 0 0 A) (F0 m 155 ls []) := by
          intro B EB H locs hP hD hS ls hl
          refine lv_aload_n hx hb dX3_come_155 rfl (lv_at hl 0 rfl) ?_
          refine lv_dup hx hb dX3_come_156 rfl ?_
          refine va_get (D := G.1) (ci := 3) (v := .int (B 10 0)) (C := RX3) (T := TX3) (N := 12) hx hb hts (fun w9 h9 => List.mem_cons_of_mem _ (List.mem_append_left _ (List.mem_append_right _ h9))) hown hK hP 0 rfl rfl 10 (by decide) (hts (.fieldLink RX3 76 "GlassHarpModel$State" "busy" "I") (List.mem_of_getElem? (i := 3) rfl)) (fun _ h9 => h9) rfl dX3_come_157 ?_
          refine lv_iconst (v := 1) hx hb dX3_come_160 (by decide) ?_
          refine lv_iload_n hx hb dX3_come_161 rfl (lv_at hl 3 rfl) ?_
          refine gh_vv (y := nI kb) (ekb) ?_
          refine lv_ishl hx hb dX3_come_162 ?_
          refine lv_ior hx hb dX3_come_163 ?_
          refine va_put (D := G.1) (ci := 3) (v := .int ((B 10 0) ||| (1 <<< ((nI kb) &&& 31)))) (ty := .int) (C := RX3) (T := TX3) (N := 12) hx hb hts (fun w9 h9 => List.mem_cons_of_mem _ (List.mem_append_left _ (List.mem_append_right _ h9))) tyX3 tyX3_ok nmX3 hown hK hP hD hS 0 rfl rfl 10 (by decide) (hts (.fieldLink RX3 76 "GlassHarpModel$State" "busy" "I") (List.mem_of_getElem? (i := 3) rfl)) (fun _ h9 => h9) rfl (tyX3_ok 10 (by decide)) rfl rfl (Nat.le_of_ble_eq_true rfl) dX3_come_164 (fun H locs hP hD hS => ?_)
          have hP : va_P G.1 vwCl ((wT G a (x 0) (gh_st B 10 (fun _ => (B 10 0) ||| (1 <<< ((nI kb) &&& 31))))) ++ (wM G x s1 s2 r)) H := hP
          have hD : va_D A ((wT G a (x 0) (gh_st B 10 (fun _ => (B 10 0) ||| (1 <<< ((nI kb) &&& 31))))) ++ (wM G x s1 s2 r)) := hD
          refine lv_aload_n hx hb dX3_come_167 rfl (lv_at hl 0 rfl) ?_
          refine va_get (D := G.1) (ci := 3) (v := .ref (a 9)) (C := RX3) (T := TX3) (N := 12) hx hb hts (fun w9 h9 => List.mem_cons_of_mem _ (List.mem_append_left _ (List.mem_append_right _ h9))) hown hK hP 0 rfl rfl 9 (by decide) (hts (.fieldLink RX3 31 "GlassHarpModel$State" "times" "[I") (List.mem_of_getElem? (i := 8) rfl)) (fun _ h9 => h9) rfl dX3_come_168 ?_
          refine lv_iload_n hx hb dX3_come_171 rfl (lv_at hl 3 rfl) ?_
          refine gh_vv (y := nI kb) (ekb) ?_
          refine lv_dup2_11 hx hb dX3_come_172 rfl rfl ?_
          refine gh_ia (f := B 9) hx hb hK hP 6 0 rfl rfl kb (rfl) (by omega) (by decide) dX3_come_173 ?_
          refine lv_iconst (v := 1) hx hb dX3_come_174 (by decide) ?_
          refine lv_iadd hx hb dX3_come_175 ?_
          refine gh_is (f := B 9) (ws' := (wT G a (x 0) (gh_st (gh_st B 10 (fun _ => (B 10 0) ||| (1 <<< ((nI kb) &&& 31)))) 9 (upd (B 9) kb ((B 9 kb) + 1)))) ++ (wM G x s1 s2 r)) hx hb hK hP hD hS 6 0 rfl rfl kb (rfl) (by omega) (by decide) dX3_come_176 rfl (fun H locs hP hD hS => ?_)
          refine lv_aload_n hx hb dX3_come_177 rfl (lv_at hl 0 rfl) ?_
          refine va_get (D := G.1) (ci := 3) (v := .ref (a 4)) (C := RX3) (T := TX3) (N := 12) hx hb hts (fun w9 h9 => List.mem_cons_of_mem _ (List.mem_append_left _ (List.mem_append_right _ h9))) hown hK hP 0 rfl rfl 4 (by decide) (hts (.fieldLink RX3 15 "GlassHarpModel$State" "air" "[I") (List.mem_of_getElem? (i := 4) rfl)) (fun _ h9 => h9) rfl dX3_come_178 ?_
          refine lv_aload_n hx hb dX3_come_181 rfl (lv_at hl 0 rfl) ?_
          refine va_get (D := G.1) (ci := 3) (v := .ref (x 0)) (C := RX3) (T := TX3) (N := 12) hx hb hts (fun w9 h9 => List.mem_cons_of_mem _ (List.mem_append_left _ (List.mem_append_right _ h9))) hown hK hP 0 rfl rfl 11 (by decide) (hts (.fieldLink RX3 3 "GlassHarpModel$State" "this$0" "LGlassHarpModel;") (List.mem_of_getElem? (i := 1) rfl)) (fun _ h9 => h9) rfl dX3_come_182 ?_
          refine va_getN (D := G.1) (ci := 4) (v := .ref (x 5)) (C := RX4) (T := TX4) (N := 9) hx hb hts (fun w9 h9 => List.mem_cons_of_mem _ (List.mem_append_right _ h9)) hown hK hP 7 rfl rfl 5 (by decide) (va_Nw.use rfl (hE.2.2 (RX3, 79, "GlassHarpModel", "row", "[I", RX4) (List.mem_of_getElem? (i := 36) rfl))) (fun _ h9 => h9) rfl dX3_come_185 ?_
          refine lv_iload_n hx hb dX3_come_188 rfl (lv_at hl 3 rfl) ?_
          refine gh_vv (y := nI kb) (ekb) ?_
          refine gh_ia (f := r 5) hx hb hK hP 9 0 rfl rfl kb (rfl) (by omega) (by decide) dX3_come_189 ?_
          refine lv_dup2_11 hx hb dX3_come_190 rfl rfl ?_
          refine va_iald (f := B 4) hx hb hK hP 1 0 rfl rfl (hrw kb hkb) dX3_come_191 ?_
          refine lv_iload_n hx hb dX3_come_192 rfl (lv_at hl 2 rfl) ?_
          refine lv_isub hx hb dX3_come_193 ?_
          refine va_iast (f := B 4) hx hb hK hP hD hS 1 0 rfl rfl (hrw kb hkb) dX3_come_194 (fun H locs hP hD hS => ?_)
          have hP : va_P G.1 vwCl ((wT G a (x 0) (gh_st (gh_st (gh_st B 10 (fun _ => (B 10 0) ||| (1 <<< ((nI kb) &&& 31)))) 9 (upd (B 9) kb ((B 9 kb) + 1))) 4 (upd (B 4) (r 5 kb).toNatClampNeg ((B 4 (r 5 kb).toNatClampNeg) - f)))) ++ (wM G x s1 s2 r)) H := hP
          have hD : va_D A ((wT G a (x 0) (gh_st (gh_st (gh_st B 10 (fun _ => (B 10 0) ||| (1 <<< ((nI kb) &&& 31)))) 9 (upd (B 9) kb ((B 9 kb) + 1))) 4 (upd (B 4) (r 5 kb).toNatClampNeg ((B 4 (r 5 kb).toNatClampNeg) - f)))) ++ (wM G x s1 s2 r)) := hD
          refine lv_aload_n hx hb dX3_come_195 rfl (lv_at hl 0 rfl) ?_
          refine va_get (D := G.1) (ci := 3) (v := .ref (a 8)) (C := RX3) (T := TX3) (N := 12) hx hb hts (fun w9 h9 => List.mem_cons_of_mem _ (List.mem_append_left _ (List.mem_append_right _ h9))) hown hK hP 0 rfl rfl 8 (by decide) (hts (.fieldLink RX3 28 "GlassHarpModel$State" "ring" "[I") (List.mem_of_getElem? (i := 9) rfl)) (fun _ h9 => h9) rfl dX3_come_196 ?_
          refine lv_iload_n hx hb dX3_come_199 rfl (lv_at hl 3 rfl) ?_
          refine gh_vv (y := nI kb) (ekb) ?_
          refine lv_bipush (v := 9) hx hb dX3_come_200 (by decide) ?_
          refine gh_is (f := B 8) (ws' := (wT G a (x 0) (gh_st (gh_st (gh_st (gh_st B 10 (fun _ => (B 10 0) ||| (1 <<< ((nI kb) &&& 31)))) 9 (upd (B 9) kb ((B 9 kb) + 1))) 4 (upd (B 4) (r 5 kb).toNatClampNeg ((B 4 (r 5 kb).toNatClampNeg) - f))) 8 (upd (B 8) kb 9))) ++ (wM G x s1 s2 r)) hx hb hK hP hD hS 5 0 rfl rfl kb (rfl) (by omega) (by decide) dX3_come_202 rfl (fun H locs hP hD hS => ?_)
          refine lv_aload_n hx hb dX3_come_203 rfl (lv_at hl 0 rfl) ?_
          refine va_get (D := G.1) (ci := 3) (v := .ref (a 6)) (C := RX3) (T := TX3) (N := 12) hx hb hts (fun w9 h9 => List.mem_cons_of_mem _ (List.mem_append_left _ (List.mem_append_right _ h9))) hown hK hP 0 rfl rfl 6 (by decide) (hts (.fieldLink RX3 22 "GlassHarpModel$State" "drops" "[I") (List.mem_of_getElem? (i := 10) rfl)) (fun _ h9 => h9) rfl dX3_come_204 ?_
          refine lv_iload_n hx hb dX3_come_207 rfl (lv_at hl 3 rfl) ?_
          refine gh_vv (y := nI kb) (ekb) ?_
          refine lv_iconst (v := 0) hx hb dX3_come_208 (by decide) ?_
          refine lv_aload_n hx hb dX3_come_209 rfl (lv_at hl 0 rfl) ?_
          refine va_get (D := G.1) (ci := 3) (v := .ref (a 6)) (C := RX3) (T := TX3) (N := 12) hx hb hts (fun w9 h9 => List.mem_cons_of_mem _ (List.mem_append_left _ (List.mem_append_right _ h9))) hown hK hP 0 rfl rfl 6 (by decide) (hts (.fieldLink RX3 22 "GlassHarpModel$State" "drops" "[I") (List.mem_of_getElem? (i := 10) rfl)) (fun _ h9 => h9) rfl dX3_come_210 ?_
          refine lv_iload_n hx hb dX3_come_213 rfl (lv_at hl 3 rfl) ?_
          refine gh_vv (y := nI kb) (ekb) ?_
          refine gh_ia (f := B 6) hx hb hK hP 3 0 rfl rfl kb (rfl) (by omega) (by decide) dX3_come_214 ?_
          refine lv_iload_n hx hb dX3_come_215 rfl (lv_at hl 2 rfl) ?_
          refine lv_isub hx hb dX3_come_216 ?_
          refine va_mmax hx hb (hml.trans hl.1.symm) hown (hts (.methodLink RX3 60 Lib.Math.max.name) (List.mem_of_getElem? (i := 11) rfl)) (hts (.static Lib.Math.max.name) (List.mem_of_getElem? (i := 12) rfl)) (hts (.initialized "java/lang/Math") (List.mem_of_getElem? (i := 13) rfl)) (hts (.code Lib.Math.max.name Lib.Math.max.code 2 (some .int)) (List.mem_of_getElem? (i := 14) rfl)) (Nat.le_of_ble_eq_true rfl) (Nat.le_of_ble_eq_true rfl) (Nat.le_of_ble_eq_true rfl) (Nat.le_of_ble_eq_true rfl) dX3_come_217 ?_
          refine gh_vv (y := gh_m0 ((B 6 kb) - f)) (rfl) ?_
          refine gh_is (f := B 6) (ws' := (wT G a (x 0) (gh_st (gh_st (gh_st (gh_st (gh_st B 10 (fun _ => (B 10 0) ||| (1 <<< ((nI kb) &&& 31)))) 9 (upd (B 9) kb ((B 9 kb) + 1))) 4 (upd (B 4) (r 5 kb).toNatClampNeg ((B 4 (r 5 kb).toNatClampNeg) - f))) 8 (upd (B 8) kb 9)) 6 (upd (B 6) kb (gh_m0 ((B 6 kb) - f))))) ++ (wM G x s1 s2 r)) hx hb hK hP hD hS 3 0 rfl rfl kb (rfl) (by omega) (by decide) dX3_come_220 rfl (fun H locs hP hD hS => ?_)
          refine lv_iload_n hx hb dX3_come_221 rfl (lv_at hl 2 rfl) ?_
          refine lv_aload_n hx hb dX3_come_222 rfl (lv_at hl 0 rfl) ?_
          refine va_get (D := G.1) (ci := 3) (v := .ref (x 0)) (C := RX3) (T := TX3) (N := 12) hx hb hts (fun w9 h9 => List.mem_cons_of_mem _ (List.mem_append_left _ (List.mem_append_right _ h9))) hown hK hP 0 rfl rfl 11 (by decide) (hts (.fieldLink RX3 3 "GlassHarpModel$State" "this$0" "LGlassHarpModel;") (List.mem_of_getElem? (i := 1) rfl)) (fun _ h9 => h9) rfl dX3_come_223 ?_
          refine va_getN (D := G.1) (ci := 4) (v := .ref (x 6)) (C := RX4) (T := TX4) (N := 9) hx hb hts (fun w9 h9 => List.mem_cons_of_mem _ (List.mem_append_right _ h9)) hown hK hP 7 rfl rfl 6 (by decide) (va_Nw.use rfl (hE.2.2 (RX3, 57, "GlassHarpModel", "size", "[I", RX4) (List.mem_of_getElem? (i := 37) rfl))) (fun _ h9 => h9) rfl dX3_come_226 ?_
          refine lv_iload_n hx hb dX3_come_229 rfl (lv_at hl 3 rfl) ?_
          refine gh_vv (y := nI kb) (ekb) ?_
          refine gh_ia (f := r 6) hx hb hK hP 10 0 rfl rfl kb (rfl) (by omega) (by decide) dX3_come_230 ?_
          refine lv_iconst (v := 3) hx hb dX3_come_231 (by decide) ?_
          refine lv_iadd hx hb dX3_come_232 ?_
          refine lv_icmp_gt (tgt := 237) hx hb dX3_come_233 (by decide) (fun c_4 => ?_) (fun c_4 => ?_)
          · skip
            refine lv_aload_n hx hb dX3_come_237 rfl (lv_at hl 0 rfl) ?_
            refine va_get (D := G.1) (ci := 3) (v := .ref (a 7)) (C := RX3) (T := TX3) (N := 12) hx hb hts (fun w9 h9 => List.mem_cons_of_mem _ (List.mem_append_left _ (List.mem_append_right _ h9))) hown hK hP 0 rfl rfl 7 (by decide) (hts (.fieldLink RX3 25 "GlassHarpModel$State" "broken" "[I") (List.mem_of_getElem? (i := 2) rfl)) (fun _ h9 => h9) rfl dX3_come_238 ?_
            refine lv_iload_n hx hb dX3_come_241 rfl (lv_at hl 3 rfl) ?_
            refine gh_vv (y := nI kb) (ekb) ?_
            refine lv_iconst (v := 1) hx hb dX3_come_242 (by decide) ?_
            refine gh_is (f := B 7) (ws' := (wT G a (x 0) (gh_st (gh_st (gh_st (gh_st (gh_st (gh_st B 10 (fun _ => (B 10 0) ||| (1 <<< ((nI kb) &&& 31)))) 9 (upd (B 9) kb ((B 9 kb) + 1))) 4 (upd (B 4) (r 5 kb).toNatClampNeg ((B 4 (r 5 kb).toNatClampNeg) - f))) 8 (upd (B 8) kb 9)) 6 (upd (B 6) kb (gh_m0 ((B 6 kb) - f)))) 7 (upd (B 7) kb 1))) ++ (wM G x s1 s2 r)) hx hb hK hP hD hS 4 0 rfl rfl kb (rfl) (by omega) (by decide) dX3_come_243 rfl (fun H locs hP hD hS => ?_)
            refine lv_aload_n hx hb dX3_come_244 rfl (lv_at hl 0 rfl) ?_
            refine va_get (D := G.1) (ci := 3) (v := .ref (a 6)) (C := RX3) (T := TX3) (N := 12) hx hb hts (fun w9 h9 => List.mem_cons_of_mem _ (List.mem_append_left _ (List.mem_append_right _ h9))) hown hK hP 0 rfl rfl 6 (by decide) (hts (.fieldLink RX3 22 "GlassHarpModel$State" "drops" "[I") (List.mem_of_getElem? (i := 10) rfl)) (fun _ h9 => h9) rfl dX3_come_245 ?_
            refine lv_iload_n hx hb dX3_come_248 rfl (lv_at hl 3 rfl) ?_
            refine gh_vv (y := nI kb) (ekb) ?_
            refine lv_iconst (v := 0) hx hb dX3_come_249 (by decide) ?_
            refine gh_is (f := upd (B 6) kb (gh_m0 ((B 6 kb) - f))) (ws' := (wT G a (x 0) (gh_st (gh_st (gh_st (gh_st (gh_st (gh_st (gh_st B 10 (fun _ => (B 10 0) ||| (1 <<< ((nI kb) &&& 31)))) 9 (upd (B 9) kb ((B 9 kb) + 1))) 4 (upd (B 4) (r 5 kb).toNatClampNeg ((B 4 (r 5 kb).toNatClampNeg) - f))) 8 (upd (B 8) kb 9)) 6 (upd (B 6) kb (gh_m0 ((B 6 kb) - f)))) 7 (upd (B 7) kb 1)) 6 (upd (upd (B 6) kb (gh_m0 ((B 6 kb) - f))) kb 0))) ++ (wM G x s1 s2 r)) hx hb hK hP hD hS 3 0 rfl rfl kb (rfl) (by omega) (by decide) dX3_come_250 rfl (fun H locs hP hD hS => ?_)
            refine lv_aload_n hx hb dX3_come_251 rfl (lv_at hl 0 rfl) ?_
            refine va_get (D := G.1) (ci := 3) (v := .ref (a 8)) (C := RX3) (T := TX3) (N := 12) hx hb hts (fun w9 h9 => List.mem_cons_of_mem _ (List.mem_append_left _ (List.mem_append_right _ h9))) hown hK hP 0 rfl rfl 8 (by decide) (hts (.fieldLink RX3 28 "GlassHarpModel$State" "ring" "[I") (List.mem_of_getElem? (i := 9) rfl)) (fun _ h9 => h9) rfl dX3_come_252 ?_
            refine lv_iload_n hx hb dX3_come_255 rfl (lv_at hl 3 rfl) ?_
            refine gh_vv (y := nI kb) (ekb) ?_
            refine lv_iconst (v := 0) hx hb dX3_come_256 (by decide) ?_
            refine gh_is (f := upd (B 8) kb 9) (ws' := (wT G a (x 0) (gh_st (gh_st (gh_st (gh_st (gh_st (gh_st (gh_st (gh_st B 10 (fun _ => (B 10 0) ||| (1 <<< ((nI kb) &&& 31)))) 9 (upd (B 9) kb ((B 9 kb) + 1))) 4 (upd (B 4) (r 5 kb).toNatClampNeg ((B 4 (r 5 kb).toNatClampNeg) - f))) 8 (upd (B 8) kb 9)) 6 (upd (B 6) kb (gh_m0 ((B 6 kb) - f)))) 7 (upd (B 7) kb 1)) 6 (upd (upd (B 6) kb (gh_m0 ((B 6 kb) - f))) kb 0)) 8 (upd (upd (B 8) kb 9) kb 0))) ++ (wM G x s1 s2 r)) hx hb hK hP hD hS 5 0 rfl rfl kb (rfl) (by omega) (by decide) dX3_come_257 rfl (fun H locs hP hD hS => ?_)
            have hP9 : va_P G.1 vwCl ((wT G a (x 0) (gm_cm r t n u f)) ++ (wM G x s1 s2 r)) H := by
              have e9 : gh_st (gh_st (gh_st (gh_st (gh_st (gh_st (gh_st (gh_st B 10 (fun _ => (B 10 0) ||| (1 <<< ((nI kb) &&& 31)))) 9 (upd (B 9) kb ((B 9 kb) + 1))) 4 (upd (B 4) (r 5 kb).toNatClampNeg ((B 4 (r 5 kb).toNatClampNeg) - f))) 8 (upd (B 8) kb 9)) 6 (upd (B 6) kb (gh_m0 ((B 6 kb) - f)))) 7 (upd (B 7) kb 1)) 6 (upd (upd (B 6) kb (gh_m0 ((B 6 kb) - f))) kb 0)) 8 (upd (upd (B 8) kb 9) kb 0) = gm_cm r t n u f := by first | (simp only [gm_cm, gm_hit, gm_c3, gm_c2, ← E3, ← EB, c_1, c_2, ekc, c_4, ↓reduceIte, if_true, if_false]; done) | (simp only [gm_cm, gm_hit, gm_c3, gm_c2, ← E3, ← EB]; simp only [c_1, c_2, ekc, c_4, ↓reduceIte, if_true, if_false]; done) | (simp [gm_cm, gm_hit, gm_c3, gm_c2, ← E3, ← EB, c_1, c_2, ekc, c_4, ↓reduceIte, if_true, if_false]; done)
              rw [← e9]
              exact hP
            exact W.vret hx hb hr (fun t9 ht hW => ⟨⟨(), rfl, trivial, gh_hp hP9 ht⟩, hS.F ht⟩) hS.2.2 dX3_come_258
          · skip
            have hP9 : va_P G.1 vwCl ((wT G a (x 0) (gm_cm r t n u f)) ++ (wM G x s1 s2 r)) H := by
              have e9 : gh_st (gh_st (gh_st (gh_st (gh_st B 10 (fun _ => (B 10 0) ||| (1 <<< ((nI kb) &&& 31)))) 9 (upd (B 9) kb ((B 9 kb) + 1))) 4 (upd (B 4) (r 5 kb).toNatClampNeg ((B 4 (r 5 kb).toNatClampNeg) - f))) 8 (upd (B 8) kb 9)) 6 (upd (B 6) kb (gh_m0 ((B 6 kb) - f))) = gm_cm r t n u f := by first | (simp only [gm_cm, gm_hit, gm_c3, gm_c2, ← E3, ← EB, c_1, c_2, ekc, c_4, ↓reduceIte, if_true, if_false]; done) | (simp only [gm_cm, gm_hit, gm_c3, gm_c2, ← E3, ← EB]; simp only [c_1, c_2, ekc, c_4, ↓reduceIte, if_true, if_false]; done) | (simp [gm_cm, gm_hit, gm_c3, gm_c2, ← E3, ← EB, c_1, c_2, ekc, c_4, ↓reduceIte, if_true, if_false]; done)
              rw [← e9]
              exact hP
            exact W.vret hx hb hr (fun t9 ht hW => ⟨⟨(), rfl, trivial, gh_hp hP9 ht⟩, hS.F ht⟩) hS.2.2 dX3_come_236
        refine lv_aload_n hx hb dX3_come_121 rfl (lv_at hl 0 rfl) ?_
        refine lv_dup hx hb dX3_come_122 rfl ?_
        refine va_get (D := G.1) (ci := 3) (v := .int (t 1 0)) (C := RX3) (T := TX3) (N := 12) hx hb hts (fun w9 h9 => List.mem_cons_of_mem _ (List.mem_append_left _ (List.mem_append_right _ h9))) hown hK hP 0 rfl rfl 1 (by decide) (hts (.fieldLink RX3 44 "GlassHarpModel$State" "played" "I") (List.mem_of_getElem? (i := 6) rfl)) (fun _ h9 => h9) rfl dX3_come_123 ?_
        refine lv_iconst (v := 1) hx hb dX3_come_126 (by decide) ?_
        refine lv_iadd hx hb dX3_come_127 ?_
        refine va_put (D := G.1) (ci := 3) (v := .int ((t 1 0) + 1)) (ty := .int) (C := RX3) (T := TX3) (N := 12) hx hb hts (fun w9 h9 => List.mem_cons_of_mem _ (List.mem_append_left _ (List.mem_append_right _ h9))) tyX3 tyX3_ok nmX3 hown hK hP hD hS 0 rfl rfl 1 (by decide) (hts (.fieldLink RX3 44 "GlassHarpModel$State" "played" "I") (List.mem_of_getElem? (i := 6) rfl)) (fun _ h9 => h9) rfl (tyX3_ok 1 (by decide)) rfl rfl (Nat.le_of_ble_eq_true rfl) dX3_come_128 (fun H locs hP hD hS => ?_)
        have hP : va_P G.1 vwCl ((wT G a (x 0) (gh_st t 1 (fun _ => (t 1 0) + 1))) ++ (wM G x s1 s2 r)) H := hP
        have hD : va_D A ((wT G a (x 0) (gh_st t 1 (fun _ => (t 1 0) + 1))) ++ (wM G x s1 s2 r)) := hD
        refine lv_aload_n hx hb dX3_come_131 rfl (lv_at hl 0 rfl) ?_
        refine lv_dup hx hb dX3_come_132 rfl ?_
        refine va_get (D := G.1) (ci := 3) (v := .int (t 2 0)) (C := RX3) (T := TX3) (N := 12) hx hb hts (fun w9 h9 => List.mem_cons_of_mem _ (List.mem_append_left _ (List.mem_append_right _ h9))) hown hK hP 0 rfl rfl 2 (by decide) (hts (.fieldLink RX3 47 "GlassHarpModel$State" "tuned" "I") (List.mem_of_getElem? (i := 7) rfl)) (fun _ h9 => h9) rfl dX3_come_133 ?_
        refine lv_aload_n hx hb dX3_come_136 rfl (lv_at hl 0 rfl) ?_
        refine lv_iload_n hx hb dX3_come_137 rfl (lv_at hl 3 rfl) ?_
        refine gh_vv (y := nI kb) (ekb) ?_
        refine lv_iload_n hx hb dX3_come_138 rfl (lv_at hl 1 rfl) ?_
        refine gh_ci (va_runV (As := [.int (nI kb), .int u]) (rest := [.int (t 2 0), .ref (a 0)]) ⟨hx, hb, hml, hown, hts⟩ (c_X3_off l G a (gh_st t 1 (fun _ => (t 1 0) + 1)) x s1 s2 r kb u (Nat.lt_of_lt_of_le hkb hn16) (hsz kb hkb)) (cwV 2 hts gX3_come_X3_off rfl rfl rfl ⟨rfl, hdS_X3_off⟩ ⟨Nat.le_of_ble_eq_true rfl, Nat.le_of_ble_eq_true rfl⟩) (gh_rV hE hP (ci := 3) (q0 := 0) rfl rfl) rfl rfl hl.1 rfl (lv_room (Nat.le_of_ble_eq_true rfl)) dX3_come_139 ⟨Nat.le_of_ble_eq_true rfl, Nat.le_of_ble_eq_true rfl⟩) ?_
        refine lv_iconst (v := 1) hx hb dX3_come_142 (by decide) ?_
        refine lv_icmp_gt (tgt := 150) hx hb dX3_come_143 (by decide) (fun c_5 => ?_) (fun c_5 => ?_)
        · skip
          refine lv_iconst (v := 0) hx hb dX3_come_150 (by decide) ?_
          refine lv_iadd hx hb dX3_come_151 ?_
          refine va_put (D := G.1) (ci := 3) (v := .int ((t 2 0) + 0)) (ty := .int) (C := RX3) (T := TX3) (N := 12) hx hb hts (fun w9 h9 => List.mem_cons_of_mem _ (List.mem_append_left _ (List.mem_append_right _ h9))) tyX3 tyX3_ok nmX3 hown hK hP hD hS 0 rfl rfl 2 (by decide) (hts (.fieldLink RX3 47 "GlassHarpModel$State" "tuned" "I") (List.mem_of_getElem? (i := 7) rfl)) (fun _ h9 => h9) rfl (tyX3_ok 2 (by decide)) rfl rfl (Nat.le_of_ble_eq_true rfl) dX3_come_152 (fun H locs hP hD hS => ?_)
          have hP : va_P G.1 vwCl ((wT G a (x 0) (gh_st (gh_st t 1 (fun _ => (t 1 0) + 1)) 2 (fun _ => (t 2 0) + 0))) ++ (wM G x s1 s2 r)) H := hP
          have hD : va_D A ((wT G a (x 0) (gh_st (gh_st t 1 (fun _ => (t 1 0) + 1)) 2 (fun _ => (t 2 0) + 0))) ++ (wM G x s1 s2 r)) := hD
          exact J155 (gh_st (gh_st t 1 (fun _ => (t 1 0) + 1)) 2 (fun _ => (t 2 0) + 0)) (by first | (simp only [gm_c1, ← E3, c_1, c_2, ekc, c_5, ↓reduceIte, if_true, if_false]; done) | (simp only [gm_c1, ← E3]; simp only [c_1, c_2, ekc, c_5, ↓reduceIte, if_true, if_false]; done) | (simp [gm_c1, ← E3, c_1, c_2, ekc, c_5, ↓reduceIte, if_true, if_false]; done)) _ _ hP hD hS _ (lv_sub hl [0, 1, 2, 3] rfl)
        · skip
          refine lv_iconst (v := 1) hx hb dX3_come_146 (by decide) ?_
          refine lv_goto (tgt := 151) hx hb dX3_come_147 (by decide) ?_
          refine lv_iadd hx hb dX3_come_151 ?_
          refine va_put (D := G.1) (ci := 3) (v := .int ((t 2 0) + 1)) (ty := .int) (C := RX3) (T := TX3) (N := 12) hx hb hts (fun w9 h9 => List.mem_cons_of_mem _ (List.mem_append_left _ (List.mem_append_right _ h9))) tyX3 tyX3_ok nmX3 hown hK hP hD hS 0 rfl rfl 2 (by decide) (hts (.fieldLink RX3 47 "GlassHarpModel$State" "tuned" "I") (List.mem_of_getElem? (i := 7) rfl)) (fun _ h9 => h9) rfl (tyX3_ok 2 (by decide)) rfl rfl (Nat.le_of_ble_eq_true rfl) dX3_come_152 (fun H locs hP hD hS => ?_)
          have hP : va_P G.1 vwCl ((wT G a (x 0) (gh_st (gh_st t 1 (fun _ => (t 1 0) + 1)) 2 (fun _ => (t 2 0) + 1))) ++ (wM G x s1 s2 r)) H := hP
          have hD : va_D A ((wT G a (x 0) (gh_st (gh_st t 1 (fun _ => (t 1 0) + 1)) 2 (fun _ => (t 2 0) + 1))) ++ (wM G x s1 s2 r)) := hD
          exact J155 (gh_st (gh_st t 1 (fun _ => (t 1 0) + 1)) 2 (fun _ => (t 2 0) + 1)) (by first | (simp only [gm_c1, ← E3, c_1, c_2, ekc, c_5, ↓reduceIte, if_true, if_false]; done) | (simp only [gm_c1, ← E3]; simp only [c_1, c_2, ekc, c_5, ↓reduceIte, if_true, if_false]; done) | (simp [gm_c1, ← E3, c_1, c_2, ekc, c_5, ↓reduceIte, if_true, if_false]; done)) _ _ hP hD hS _ (lv_sub hl [0, 1, 2, 3] rfl)
      · skip
        refine lv_aload_n hx hb dX3_come_110 rfl (lv_at hl 0 rfl) ?_
        refine lv_dup hx hb dX3_come_111 rfl ?_
        refine va_get (D := G.1) (ci := 3) (v := .int (t 3 0)) (C := RX3) (T := TX3) (N := 12) hx hb hts (fun w9 h9 => List.mem_cons_of_mem _ (List.mem_append_left _ (List.mem_append_right _ h9))) hown hK hP 0 rfl rfl 3 (by decide) (hts (.fieldLink RX3 50 "GlassHarpModel$State" "missed" "I") (List.mem_of_getElem? (i := 5) rfl)) (fun _ h9 => h9) rfl dX3_come_112 ?_
        refine lv_iconst (v := 1) hx hb dX3_come_115 (by decide) ?_
        refine lv_iadd hx hb dX3_come_116 ?_
        refine va_put (D := G.1) (ci := 3) (v := .int ((t 3 0) + 1)) (ty := .int) (C := RX3) (T := TX3) (N := 12) hx hb hts (fun w9 h9 => List.mem_cons_of_mem _ (List.mem_append_left _ (List.mem_append_right _ h9))) tyX3 tyX3_ok nmX3 hown hK hP hD hS 0 rfl rfl 3 (by decide) (hts (.fieldLink RX3 50 "GlassHarpModel$State" "missed" "I") (List.mem_of_getElem? (i := 5) rfl)) (fun _ h9 => h9) rfl (tyX3_ok 3 (by decide)) rfl rfl (Nat.le_of_ble_eq_true rfl) dX3_come_117 (fun H locs hP hD hS => ?_)
        have hP : va_P G.1 vwCl ((wT G a (x 0) (gh_st t 3 (fun _ => (t 3 0) + 1))) ++ (wM G x s1 s2 r)) H := hP
        have hD : va_D A ((wT G a (x 0) (gh_st t 3 (fun _ => (t 3 0) + 1))) ++ (wM G x s1 s2 r)) := hD
        have hP9 : va_P G.1 vwCl ((wT G a (x 0) (gm_cm r t n u f)) ++ (wM G x s1 s2 r)) H := by
          have e9 : gh_st t 3 (fun _ => (t 3 0) + 1) = gm_cm r t n u f := by first | (simp only [gm_cm, gm_hit, gm_c3, gm_c2, ← E3, c_1, c_2, ↓reduceIte, if_true, if_false]; done) | (simp only [gm_cm, gm_hit, gm_c3, gm_c2, ← E3]; simp only [c_1, c_2, ↓reduceIte, if_true, if_false]; done) | (simp [gm_cm, gm_hit, gm_c3, gm_c2, ← E3, c_1, c_2, ↓reduceIte, if_true, if_false]; done)
          rw [← e9]
          exact hP
        exact W.vret hx hb hr (fun t9 ht hW => ⟨⟨(), rfl, trivial, gh_hp hP9 ht⟩, hS.F ht⟩) hS.2.2 dX3_come_120
    · intro i hi_lo hi ih
      intro x3 E3 hbo H locs hP hD hS ls hl
      refine lv_iload hx hb dX3_come_5 (lv_at hl 4 rfl) ?_
      refine lv_aload_n hx hb dX3_come_7 rfl (lv_at hl 0 rfl) ?_
      refine va_get (D := G.1) (ci := 3) (v := .ref (x 0)) (C := RX3) (T := TX3) (N := 12) hx hb hts (fun w9 h9 => List.mem_cons_of_mem _ (List.mem_append_left _ (List.mem_append_right _ h9))) hown hK hP 0 rfl rfl 11 (by decide) (hts (.fieldLink RX3 3 "GlassHarpModel$State" "this$0" "LGlassHarpModel;") (List.mem_of_getElem? (i := 1) rfl)) (fun _ h9 => h9) rfl dX3_come_8 ?_
      refine va_getN (D := G.1) (ci := 4) (v := .int (r 4 0)) (C := RX4) (T := TX4) (N := 9) hx hb hts (fun w9 h9 => List.mem_cons_of_mem _ (List.mem_append_right _ h9)) hown hK hP 7 rfl rfl 4 (by decide) (va_Nw.use rfl (hE.2.2 (RX3, 73, "GlassHarpModel", "glasses", "I", RX4) (List.mem_of_getElem? (i := 35) rfl))) (fun _ h9 => h9) rfl dX3_come_11 ?_
      refine gh_vv (y := nI n) (hn) ?_
      refine lv_icmp_ge (tgt := 105) hx hb dX3_come_14 (by decide) (fun c_6 => absurd c_6 (nI_ge hi (Nat.lt_of_le_of_lt hn16 (by decide)))) (fun c_6 => ?_)
      refine lv_aload_n hx hb dX3_come_17 rfl (lv_at hl 0 rfl) ?_
      refine va_get (D := G.1) (ci := 3) (v := .ref (a 7)) (C := RX3) (T := TX3) (N := 12) hx hb hts (fun w9 h9 => List.mem_cons_of_mem _ (List.mem_append_left _ (List.mem_append_right _ h9))) hown hK hP 0 rfl rfl 7 (by decide) (hts (.fieldLink RX3 25 "GlassHarpModel$State" "broken" "[I") (List.mem_of_getElem? (i := 2) rfl)) (fun _ h9 => h9) rfl dX3_come_18 ?_
      refine lv_iload hx hb dX3_come_21 (lv_at hl 4 rfl) ?_
      refine gh_ia (f := t 7) hx hb hK hP 4 0 rfl rfl i (rfl) (Nat.lt_of_lt_of_le hi hn16) (by decide) dX3_come_23 ?_
      refine lv_iconst (v := 1) hx hb dX3_come_24 (by decide) ?_
      refine lv_icmp_eq (tgt := 99) hx hb dX3_come_25 (by decide) (fun c_7 => ?_) (fun c_7 => ?_)
      · skip
        refine lv_iinc (v := nI (i + 1)) (lv' := [(4, .int (nI (i + 1))), (0, .ref (a 0)), (1, .int u), (2, .int f), (3, .int x3)]) hx hb dX3_come_99 hl (k := 4) rfl (nI_1 i) (by decide) rfl (fun ls hl => ?_)
        refine lv_goto (tgt := 5) hx hb dX3_come_102 (by decide) ?_
        exact ih x3 (by first | (simp only [gm_bs, ← E3, c_6, c_7, ↓reduceIte, if_true, if_false]; done) | (simp only [gm_bs, ← E3]; simp only [c_6, c_7, ↓reduceIte, if_true, if_false]; done) | (simp [gm_bs, ← E3, c_6, c_7, ↓reduceIte, if_true, if_false]; done)) (gm_bo_s hbo) _ _ hP hD hS _ (lv_sub hl [1, 2, 3, 4, 0] rfl)
      · skip
        refine lv_aload_n hx hb dX3_come_28 rfl (lv_at hl 0 rfl) ?_
        refine va_get (D := G.1) (ci := 3) (v := .int (t 10 0)) (C := RX3) (T := TX3) (N := 12) hx hb hts (fun w9 h9 => List.mem_cons_of_mem _ (List.mem_append_left _ (List.mem_append_right _ h9))) hown hK hP 0 rfl rfl 10 (by decide) (hts (.fieldLink RX3 76 "GlassHarpModel$State" "busy" "I") (List.mem_of_getElem? (i := 3) rfl)) (fun _ h9 => h9) rfl dX3_come_29 ?_
        refine lv_iload hx hb dX3_come_32 (lv_at hl 4 rfl) ?_
        refine lv_ishr hx hb dX3_come_34 ?_
        refine lv_iconst (v := 1) hx hb dX3_come_35 (by decide) ?_
        refine lv_iand hx hb dX3_come_36 ?_
        refine gh_vv (y := gm_bz t i) (rfl) ?_
        refine lv_iconst (v := 1) hx hb dX3_come_37 (by decide) ?_
        refine lv_icmp_eq (tgt := 99) hx hb dX3_come_38 (by decide) (fun c_8 => ?_) (fun c_8 => ?_)
        · skip
          refine lv_iinc (v := nI (i + 1)) (lv' := [(4, .int (nI (i + 1))), (0, .ref (a 0)), (1, .int u), (2, .int f), (3, .int x3)]) hx hb dX3_come_99 hl (k := 4) rfl (nI_1 i) (by decide) rfl (fun ls hl => ?_)
          refine lv_goto (tgt := 5) hx hb dX3_come_102 (by decide) ?_
          exact ih x3 (by first | (simp only [gm_bs, ← E3, c_6, c_7, c_8, ↓reduceIte, if_true, if_false]; done) | (simp only [gm_bs, ← E3]; simp only [c_6, c_7, c_8, ↓reduceIte, if_true, if_false]; done) | (simp [gm_bs, ← E3, c_6, c_7, c_8, ↓reduceIte, if_true, if_false]; done)) (gm_bo_s hbo) _ _ hP hD hS _ (lv_sub hl [1, 2, 3, 4, 0] rfl)
        · skip
          refine lv_aload_n hx hb dX3_come_41 rfl (lv_at hl 0 rfl) ?_
          refine va_get (D := G.1) (ci := 3) (v := .ref (a 4)) (C := RX3) (T := TX3) (N := 12) hx hb hts (fun w9 h9 => List.mem_cons_of_mem _ (List.mem_append_left _ (List.mem_append_right _ h9))) hown hK hP 0 rfl rfl 4 (by decide) (hts (.fieldLink RX3 15 "GlassHarpModel$State" "air" "[I") (List.mem_of_getElem? (i := 4) rfl)) (fun _ h9 => h9) rfl dX3_come_42 ?_
          refine lv_aload_n hx hb dX3_come_45 rfl (lv_at hl 0 rfl) ?_
          refine va_get (D := G.1) (ci := 3) (v := .ref (x 0)) (C := RX3) (T := TX3) (N := 12) hx hb hts (fun w9 h9 => List.mem_cons_of_mem _ (List.mem_append_left _ (List.mem_append_right _ h9))) hown hK hP 0 rfl rfl 11 (by decide) (hts (.fieldLink RX3 3 "GlassHarpModel$State" "this$0" "LGlassHarpModel;") (List.mem_of_getElem? (i := 1) rfl)) (fun _ h9 => h9) rfl dX3_come_46 ?_
          refine va_getN (D := G.1) (ci := 4) (v := .ref (x 5)) (C := RX4) (T := TX4) (N := 9) hx hb hts (fun w9 h9 => List.mem_cons_of_mem _ (List.mem_append_right _ h9)) hown hK hP 7 rfl rfl 5 (by decide) (va_Nw.use rfl (hE.2.2 (RX3, 79, "GlassHarpModel", "row", "[I", RX4) (List.mem_of_getElem? (i := 36) rfl))) (fun _ h9 => h9) rfl dX3_come_49 ?_
          refine lv_iload hx hb dX3_come_52 (lv_at hl 4 rfl) ?_
          refine gh_ia (f := r 5) hx hb hK hP 9 0 rfl rfl i (rfl) (Nat.lt_of_lt_of_le hi hn16) (by decide) dX3_come_54 ?_
          refine va_iald (f := t 4) hx hb hK hP 1 0 rfl rfl (hrw i hi) dX3_come_55 ?_
          refine lv_iload_n hx hb dX3_come_56 rfl (lv_at hl 2 rfl) ?_
          refine lv_icmp_lt (tgt := 99) hx hb dX3_come_57 (by decide) (fun c_9 => ?_) (fun c_9 => ?_)
          · skip
            refine lv_iinc (v := nI (i + 1)) (lv' := [(4, .int (nI (i + 1))), (0, .ref (a 0)), (1, .int u), (2, .int f), (3, .int x3)]) hx hb dX3_come_99 hl (k := 4) rfl (nI_1 i) (by decide) rfl (fun ls hl => ?_)
            refine lv_goto (tgt := 5) hx hb dX3_come_102 (by decide) ?_
            exact ih x3 (by first | (simp only [gm_bs, ← E3, c_6, c_7, c_8, c_9, ↓reduceIte, if_true, if_false]; done) | (simp only [gm_bs, ← E3]; simp only [c_6, c_7, c_8, c_9, ↓reduceIte, if_true, if_false]; done) | (simp [gm_bs, ← E3, c_6, c_7, c_8, c_9, ↓reduceIte, if_true, if_false]; done)) (gm_bo_s hbo) _ _ hP hD hS _ (lv_sub hl [1, 2, 3, 4, 0] rfl)
          · skip
            refine lv_aload_n hx hb dX3_come_60 rfl (lv_at hl 0 rfl) ?_
            refine lv_iload hx hb dX3_come_61 (lv_at hl 4 rfl) ?_
            refine lv_iload_n hx hb dX3_come_63 rfl (lv_at hl 1 rfl) ?_
            refine gh_ci (va_runV (As := [.int (nI i), .int u]) (rest := []) ⟨hx, hb, hml, hown, hts⟩ (c_X3_off l G a t x s1 s2 r i u (Nat.lt_of_lt_of_le hi hn16) (hsz i hi)) (cwV 2 hts gX3_come_X3_off rfl rfl rfl ⟨rfl, hdS_X3_off⟩ ⟨Nat.le_of_ble_eq_true rfl, Nat.le_of_ble_eq_true rfl⟩) (gh_rV hE hP (ci := 3) (q0 := 0) rfl rfl) rfl rfl hl.1 rfl (lv_room (Nat.le_of_ble_eq_true rfl)) dX3_come_64 ⟨Nat.le_of_ble_eq_true rfl, Nat.le_of_ble_eq_true rfl⟩) ?_
            refine lv_bipush (v := 6) hx hb dX3_come_67 (by decide) ?_
            refine lv_icmp_le (tgt := 75) hx hb dX3_come_69 (by decide) (fun c_10 => ?_) (fun c_10 => ?_)
            · skip
              refine lv_iload_n hx hb dX3_come_75 rfl (lv_at hl 3 rfl) ?_
              refine lv_iconst (v := (-1)) hx hb dX3_come_76 (by decide) ?_
              refine lv_icmp_eq (tgt := 96) hx hb dX3_come_77 (by decide) (fun c_11 => ?_) (fun c_11 => ?_)
              · skip
                refine lv_iload hx hb dX3_come_96 (lv_at hl 4 rfl) ?_
                refine lv_istore_n (lv' := [(3, .int (nI i)), (0, .ref (a 0)), (1, .int u), (2, .int f), (4, .int (nI i))]) hx hb dX3_come_98 rfl hl (by decide) rfl (fun ls hl => ?_)
                refine lv_iinc (v := nI (i + 1)) (lv' := [(4, .int (nI (i + 1))), (3, .int (nI i)), (0, .ref (a 0)), (1, .int u), (2, .int f)]) hx hb dX3_come_99 hl (k := 4) rfl (nI_1 i) (by decide) rfl (fun ls hl => ?_)
                refine lv_goto (tgt := 5) hx hb dX3_come_102 (by decide) ?_
                exact ih (nI i) (by first | (simp only [gm_bs, ← E3, c_6, c_7, c_8, c_9, c_10, c_11, ↓reduceIte, if_true, if_false]; done) | (simp only [gm_bs, ← E3]; simp only [c_6, c_7, c_8, c_9, c_10, c_11, ↓reduceIte, if_true, if_false]; done) | (simp [gm_bs, ← E3, c_6, c_7, c_8, c_9, c_10, c_11, ↓reduceIte, if_true, if_false]; done)) (gm_bo_n i) _ _ hP hD hS _ (lv_sub hl [2, 3, 4, 1, 0] rfl)
              · skip
                obtain ⟨kb, hkb, ekb⟩ := gm_bo_k hbo c_11
                have ekc : x3.toNatClampNeg = kb := by rw [ekb, nI_clamp (Nat.lt_trans (Nat.lt_of_lt_of_le (Nat.lt_trans hkb hi) hn16) (by decide))]
                refine lv_aload_n hx hb dX3_come_80 rfl (lv_at hl 0 rfl) ?_
                refine lv_iload hx hb dX3_come_81 (lv_at hl 4 rfl) ?_
                refine lv_iload_n hx hb dX3_come_83 rfl (lv_at hl 1 rfl) ?_
                refine gh_ci (va_runV (As := [.int (nI i), .int u]) (rest := []) ⟨hx, hb, hml, hown, hts⟩ (c_X3_off l G a t x s1 s2 r i u (Nat.lt_of_lt_of_le hi hn16) (hsz i hi)) (cwV 2 hts gX3_come_X3_off rfl rfl rfl ⟨rfl, hdS_X3_off⟩ ⟨Nat.le_of_ble_eq_true rfl, Nat.le_of_ble_eq_true rfl⟩) (gh_rV hE hP (ci := 3) (q0 := 0) rfl rfl) rfl rfl hl.1 rfl (lv_room (Nat.le_of_ble_eq_true rfl)) dX3_come_84 ⟨Nat.le_of_ble_eq_true rfl, Nat.le_of_ble_eq_true rfl⟩) ?_
                refine lv_aload_n hx hb dX3_come_87 rfl (lv_at hl 0 rfl) ?_
                refine lv_iload_n hx hb dX3_come_88 rfl (lv_at hl 3 rfl) ?_
                refine gh_vv (y := nI kb) (ekb) ?_
                refine lv_iload_n hx hb dX3_come_89 rfl (lv_at hl 1 rfl) ?_
                refine gh_ci (va_runV (As := [.int (nI kb), .int u]) (rest := [.int (gm_of r t i u)]) ⟨hx, hb, hml, hown, hts⟩ (c_X3_off l G a t x s1 s2 r kb u (Nat.lt_of_lt_of_le (Nat.lt_trans hkb hi) hn16) (hsz kb (Nat.lt_trans hkb hi))) (cwV 2 hts gX3_come_X3_off rfl rfl rfl ⟨rfl, hdS_X3_off⟩ ⟨Nat.le_of_ble_eq_true rfl, Nat.le_of_ble_eq_true rfl⟩) (gh_rV hE hP (ci := 3) (q0 := 0) rfl rfl) rfl rfl hl.1 rfl (lv_room (Nat.le_of_ble_eq_true rfl)) dX3_come_90 ⟨Nat.le_of_ble_eq_true rfl, Nat.le_of_ble_eq_true rfl⟩) ?_
                refine lv_icmp_ge (tgt := 99) hx hb dX3_come_93 (by decide) (fun c_12 => ?_) (fun c_12 => ?_)
                · skip
                  refine lv_iinc (v := nI (i + 1)) (lv' := [(4, .int (nI (i + 1))), (0, .ref (a 0)), (1, .int u), (2, .int f), (3, .int x3)]) hx hb dX3_come_99 hl (k := 4) rfl (nI_1 i) (by decide) rfl (fun ls hl => ?_)
                  refine lv_goto (tgt := 5) hx hb dX3_come_102 (by decide) ?_
                  exact ih x3 (by first | (simp only [gm_bs, ← E3, c_6, c_7, c_8, c_9, c_10, c_11, ekc, c_12, ↓reduceIte, if_true, if_false]; done) | (simp only [gm_bs, ← E3]; simp only [c_6, c_7, c_8, c_9, c_10, c_11, ekc, c_12, ↓reduceIte, if_true, if_false]; done) | (simp [gm_bs, ← E3, c_6, c_7, c_8, c_9, c_10, c_11, ekc, c_12, ↓reduceIte, if_true, if_false]; done)) (gm_bo_s hbo) _ _ hP hD hS _ (lv_sub hl [1, 2, 3, 4, 0] rfl)
                · skip
                  refine lv_iload hx hb dX3_come_96 (lv_at hl 4 rfl) ?_
                  refine lv_istore_n (lv' := [(3, .int (nI i)), (0, .ref (a 0)), (1, .int u), (2, .int f), (4, .int (nI i))]) hx hb dX3_come_98 rfl hl (by decide) rfl (fun ls hl => ?_)
                  refine lv_iinc (v := nI (i + 1)) (lv' := [(4, .int (nI (i + 1))), (3, .int (nI i)), (0, .ref (a 0)), (1, .int u), (2, .int f)]) hx hb dX3_come_99 hl (k := 4) rfl (nI_1 i) (by decide) rfl (fun ls hl => ?_)
                  refine lv_goto (tgt := 5) hx hb dX3_come_102 (by decide) ?_
                  exact ih (nI i) (by first | (simp only [gm_bs, ← E3, c_6, c_7, c_8, c_9, c_10, c_11, ekc, c_12, ↓reduceIte, if_true, if_false]; done) | (simp only [gm_bs, ← E3]; simp only [c_6, c_7, c_8, c_9, c_10, c_11, ekc, c_12, ↓reduceIte, if_true, if_false]; done) | (simp [gm_bs, ← E3, c_6, c_7, c_8, c_9, c_10, c_11, ekc, c_12, ↓reduceIte, if_true, if_false]; done)) (gm_bo_n i) _ _ hP hD hS _ (lv_sub hl [2, 3, 4, 1, 0] rfl)
            · skip
              refine lv_goto (tgt := 99) hx hb dX3_come_72 (by decide) ?_
              refine lv_iinc (v := nI (i + 1)) (lv' := [(4, .int (nI (i + 1))), (0, .ref (a 0)), (1, .int u), (2, .int f), (3, .int x3)]) hx hb dX3_come_99 hl (k := 4) rfl (nI_1 i) (by decide) rfl (fun ls hl => ?_)
              refine lv_goto (tgt := 5) hx hb dX3_come_102 (by decide) ?_
              exact ih x3 (by first | (simp only [gm_bs, ← E3, c_6, c_7, c_8, c_9, c_10, ↓reduceIte, if_true, if_false]; done) | (simp only [gm_bs, ← E3]; simp only [c_6, c_7, c_8, c_9, c_10, ↓reduceIte, if_true, if_false]; done) | (simp [gm_bs, ← E3, c_6, c_7, c_8, c_9, c_10, ↓reduceIte, if_true, if_false]; done)) (gm_bo_s hbo) _ _ hP hD hS _ (lv_sub hl [1, 2, 3, 4, 0] rfl)
  exact J5 (-1) (by first | (simp only [gm_bs, ↓reduceIte, if_true, if_false]; done) | (simp only [gm_bs, ↓reduceIte, if_true, if_false]; rfl) | (simp [gm_bs, ↓reduceIte, if_true, if_false]; done)) (Or.inl rfl) _ _ hP hD hS _ (lv_sub hl [2, 3, 4, 1, 0] rfl)
set_option maxHeartbeats 4000000 in
set_option maxRecDepth 100000 in
theorem c_X3_pass (l : Launch) (G : gh_G) (sz : Nat) (a : Nat → Nat) (t : gh_B) (x : Nat → Nat) (s1 : Nat) (s2 : Nat) (r : gh_B) (n : Nat) (nn : Nat) (hn : r 4 0 = nI n) (hn16 : n ≤ 16) (hsz : ∀ j : Nat, j < n → ¬ 4 * r 6 j = 0) (hrw : ∀ j : Nat, j < n → vp_in (r 5 j) 4) (hz : r 2 0 = nI nn) (hz32 : nn ≤ 32) (hln : ¬ r 1 0 = 0) : Met l yX3_pass wsX3_pass ({ frames := 4, cells := 0, slots := 0, locals := 88 } : Room) (gh_w G [.ref (a 0)] ((wT G a (x 0) t) ++ (wM G x s1 s2 r)) sz) (va_Qv (fun _ : Unit => True) (fun _ t9 => va_P G.1 vwCl ((wT G a (x 0) (gm_pass r t n nn)) ++ (wM G x s1 s2 r)) t9.heap) (va_A ((wT G a (x 0) t) ++ (wM G x s1 s2 r)) sz)) 0 0 (va_A ((wT G a (x 0) t) ++ (wM G x s1 s2 r)) sz) := by
  refine Met.ofW (cc := cX3_pass) (maxL := 2) (ret := none) (by decide) rfl ?_
  intro p e s m args below meth c s₁ B hml hv
  obtain ⟨rfl, hsz, hP, hE, hD0⟩ := hv
  have hx := B.exec
  have hb := B.bytes
  have hr := B.returns
  have hts := atoms_spec (ws := wsX3_pass) B.pre
  have hown : s.vm.findClass RX3 = some m.cls := findClass_of_methodNamed B.named
  have hlocks := B.notSynchronized
  have hK := hE.1
  subst hsz
  have hD := hD0.self (sz := s.heap.size)
  generalize hAe : va_A ((wT G a (x 0) t) ++ (wM G x s1 s2 r)) s.heap.size = A at hD ⊢
  have hA : ∀ q : Nat, s.heap.size ≤ q → A q := fun q h => by rw [← hAe]; exact Or.inr h
  have hS : va_S A s.heap s.heap [] := va_S.rf
  have hl := lv_entry ([.ref (a 0)]) (n := 2) (Nat.le_of_ble_eq_true rfl)
  rw [lg_entry_eq]
  generalize (lg_sl ([.ref (a 0)]) ++ List.replicate (2 - (lg_sl ([.ref (a 0)])).length) Slot.unset).toArray = ls at hl ⊢
  have hl : lv_has ls 2 [(0, .ref (a 0))] := hl
  refine lv_iconst (v := 0) hx hb dX3_pass_0 (by decide) ?_
  refine lv_istore_n (lv' := [(1, .int 0), (0, .ref (a 0))]) hx hb dX3_pass_1 rfl hl (by decide) rfl (fun ls hl => ?_)
  have J2 : ∀ (B : gh_B), (B = gm_fb t 0) → ∀ (H : Heap) (locs : List Loc), va_P G.1 vwCl ((wT G a (x 0) B) ++ (wM G x s1 s2 r)) H → va_D A ((wT G a (x 0) B) ++ (wM G x s1 s2 r)) → va_S A s.heap H locs → ∀ (ls : Array Slot), lv_has ls 2 [(0, .ref (a 0)), (1, .int (nI 0))] → W p l e (headSpec wsX3_pass ({ frames := 4, cells := 0, slots := 0, locals := 88 } : Room)).room s m ([.ref (a 0)] : List Value).toArray below meth c H locs 0 0 (MQ below (va_Qv (fun _ : Unit => True) (fun _ t9 => va_P G.1 vwCl ((wT G a (x 0) (gm_pass r t n nn)) ++ (wM G x s1 s2 r)) t9.heap) A) ([.ref (a 0)] : List Value).toArray s 0 0 A) (F0 m 2 ls []) := by
    refine gh_loop (n := 4) (i0 := 0) (Nat.zero_le _) (P := fun i => ∀ (B : gh_B), (B = gm_fb t i) → ∀ (H : Heap) (locs : List Loc), va_P G.1 vwCl ((wT G a (x 0) B) ++ (wM G x s1 s2 r)) H → va_D A ((wT G a (x 0) B) ++ (wM G x s1 s2 r)) → va_S A s.heap H locs → ∀ (ls : Array Slot), lv_has ls 2 [(0, .ref (a 0)), (1, .int (nI i))] → W p l e (headSpec wsX3_pass ({ frames := 4, cells := 0, slots := 0, locals := 88 } : Room)).room s m ([.ref (a 0)] : List Value).toArray below meth c H locs 0 0 (MQ below (va_Qv (fun _ : Unit => True) (fun _ t9 => va_P G.1 vwCl ((wT G a (x 0) (gm_pass r t n nn)) ++ (wM G x s1 s2 r)) t9.heap) A) ([.ref (a 0)] : List Value).toArray s 0 0 A) (F0 m 2 ls [])) ?_ ?_
    · skip
      intro B EB H locs hP hD hS ls hl
      refine lv_iload_n hx hb dX3_pass_2 rfl (lv_at hl 1 rfl) ?_
      refine lv_iconst (v := 4) hx hb dX3_pass_3 (by decide) ?_
      refine lv_icmp_ge (tgt := 37) hx hb dX3_pass_4 (by decide) (fun c_1 => ?_) (fun c_1 => absurd (nI_le (Nat.le_refl _) (by decide)) c_1)
      refine lv_aload_n hx hb dX3_pass_37 rfl (lv_at hl 0 rfl) ?_
      refine lv_iconst (v := 0) hx hb dX3_pass_38 (by decide) ?_
      refine va_put (D := G.1) (ci := 3) (v := .int 0) (ty := .int) (C := RX3) (T := TX3) (N := 12) hx hb hts (fun w9 h9 => List.mem_cons_of_mem _ (List.mem_append_left _ (List.mem_append_right _ h9))) tyX3 tyX3_ok nmX3 hown hK hP hD hS 0 rfl rfl 10 (by decide) (hts (.fieldLink RX3 76 "GlassHarpModel$State" "busy" "I") (List.mem_of_getElem? (i := 7) rfl)) (fun _ h9 => h9) rfl (tyX3_ok 10 (by decide)) rfl rfl (Nat.le_of_ble_eq_true rfl) dX3_pass_39 (fun H locs hP hD hS => ?_)
      have hP : va_P G.1 vwCl ((wT G a (x 0) (gh_st B 10 (fun _ => 0))) ++ (wM G x s1 s2 r)) H := hP
      have hD : va_D A ((wT G a (x 0) (gh_st B 10 (fun _ => 0))) ++ (wM G x s1 s2 r)) := hD
      refine lv_iconst (v := 0) hx hb dX3_pass_42 (by decide) ?_
      refine lv_istore_n (lv' := [(1, .int 0), (0, .ref (a 0))]) hx hb dX3_pass_43 rfl hl (by decide) rfl (fun ls hl => ?_)
      have J44 : ∀ (C : gh_B), (C = gm_ns r (gh_st B 10 (fun _ => 0)) n 0) → ∀ (H : Heap) (locs : List Loc), va_P G.1 vwCl ((wT G a (x 0) C) ++ (wM G x s1 s2 r)) H → va_D A ((wT G a (x 0) C) ++ (wM G x s1 s2 r)) → va_S A s.heap H locs → ∀ (ls : Array Slot), lv_has ls 2 [(0, .ref (a 0)), (1, .int (nI 0))] → W p l e (headSpec wsX3_pass ({ frames := 4, cells := 0, slots := 0, locals := 88 } : Room)).room s m ([.ref (a 0)] : List Value).toArray below meth c H locs 0 0 (MQ below (va_Qv (fun _ : Unit => True) (fun _ t9 => va_P G.1 vwCl ((wT G a (x 0) (gm_pass r t n nn)) ++ (wM G x s1 s2 r)) t9.heap) A) ([.ref (a 0)] : List Value).toArray s 0 0 A) (F0 m 44 ls []) := by
        refine gh_loop (n := nn) (i0 := 0) (Nat.zero_le _) (P := fun i => ∀ (C : gh_B), (C = gm_ns r (gh_st B 10 (fun _ => 0)) n i) → ∀ (H : Heap) (locs : List Loc), va_P G.1 vwCl ((wT G a (x 0) C) ++ (wM G x s1 s2 r)) H → va_D A ((wT G a (x 0) C) ++ (wM G x s1 s2 r)) → va_S A s.heap H locs → ∀ (ls : Array Slot), lv_has ls 2 [(0, .ref (a 0)), (1, .int (nI i))] → W p l e (headSpec wsX3_pass ({ frames := 4, cells := 0, slots := 0, locals := 88 } : Room)).room s m ([.ref (a 0)] : List Value).toArray below meth c H locs 0 0 (MQ below (va_Qv (fun _ : Unit => True) (fun _ t9 => va_P G.1 vwCl ((wT G a (x 0) (gm_pass r t n nn)) ++ (wM G x s1 s2 r)) t9.heap) A) ([.ref (a 0)] : List Value).toArray s 0 0 A) (F0 m 44 ls [])) ?_ ?_
        · skip
          intro C EC H locs hP hD hS ls hl
          refine lv_iload_n hx hb dX3_pass_44 rfl (lv_at hl 1 rfl) ?_
          refine lv_aload_n hx hb dX3_pass_45 rfl (lv_at hl 0 rfl) ?_
          refine va_get (D := G.1) (ci := 3) (v := .ref (x 0)) (C := RX3) (T := TX3) (N := 12) hx hb hts (fun w9 h9 => List.mem_cons_of_mem _ (List.mem_append_left _ (List.mem_append_right _ h9))) hown hK hP 0 rfl rfl 11 (by decide) (hts (.fieldLink RX3 3 "GlassHarpModel$State" "this$0" "LGlassHarpModel;") (List.mem_of_getElem? (i := 8) rfl)) (fun _ h9 => h9) rfl dX3_pass_46 ?_
          refine va_getN (D := G.1) (ci := 4) (v := .int (r 2 0)) (C := RX4) (T := TX4) (N := 9) hx hb hts (fun w9 h9 => List.mem_cons_of_mem _ (List.mem_append_right _ h9)) hown hK hP 7 rfl rfl 2 (by decide) (va_Nw.use rfl (hE.2.2 (RX3, 88, "GlassHarpModel", "notes", "I", RX4) (List.mem_of_getElem? (i := 33) rfl))) (fun _ h9 => h9) rfl dX3_pass_49 ?_
          refine gh_vv (y := nI nn) (hz) ?_
          refine lv_icmp_ge (tgt := 117) hx hb dX3_pass_52 (by decide) (fun c_2 => ?_) (fun c_2 => absurd (nI_le (Nat.le_refl _) (Nat.lt_of_le_of_lt hz32 (by decide))) c_2)
          refine lv_iconst (v := 0) hx hb dX3_pass_117 (by decide) ?_
          refine lv_istore_n (lv' := [(1, .int 0), (0, .ref (a 0))]) hx hb dX3_pass_118 rfl hl (by decide) rfl (fun ls hl => ?_)
          have J119 : ∀ (D : gh_B), (D = gm_fd C 0) → ∀ (H : Heap) (locs : List Loc), va_P G.1 vwCl ((wT G a (x 0) D) ++ (wM G x s1 s2 r)) H → va_D A ((wT G a (x 0) D) ++ (wM G x s1 s2 r)) → va_S A s.heap H locs → ∀ (ls : Array Slot), lv_has ls 2 [(0, .ref (a 0)), (1, .int (nI 0))] → W p l e (headSpec wsX3_pass ({ frames := 4, cells := 0, slots := 0, locals := 88 } : Room)).room s m ([.ref (a 0)] : List Value).toArray below meth c H locs 0 0 (MQ below (va_Qv (fun _ : Unit => True) (fun _ t9 => va_P G.1 vwCl ((wT G a (x 0) (gm_pass r t n nn)) ++ (wM G x s1 s2 r)) t9.heap) A) ([.ref (a 0)] : List Value).toArray s 0 0 A) (F0 m 119 ls []) := by
            refine gh_loop (n := n) (i0 := 0) (Nat.zero_le _) (P := fun i => ∀ (D : gh_B), (D = gm_fd C i) → ∀ (H : Heap) (locs : List Loc), va_P G.1 vwCl ((wT G a (x 0) D) ++ (wM G x s1 s2 r)) H → va_D A ((wT G a (x 0) D) ++ (wM G x s1 s2 r)) → va_S A s.heap H locs → ∀ (ls : Array Slot), lv_has ls 2 [(0, .ref (a 0)), (1, .int (nI i))] → W p l e (headSpec wsX3_pass ({ frames := 4, cells := 0, slots := 0, locals := 88 } : Room)).room s m ([.ref (a 0)] : List Value).toArray below meth c H locs 0 0 (MQ below (va_Qv (fun _ : Unit => True) (fun _ t9 => va_P G.1 vwCl ((wT G a (x 0) (gm_pass r t n nn)) ++ (wM G x s1 s2 r)) t9.heap) A) ([.ref (a 0)] : List Value).toArray s 0 0 A) (F0 m 119 ls [])) ?_ ?_
            · skip
              intro D ED H locs hP hD hS ls hl
              refine lv_iload_n hx hb dX3_pass_119 rfl (lv_at hl 1 rfl) ?_
              refine lv_aload_n hx hb dX3_pass_120 rfl (lv_at hl 0 rfl) ?_
              refine va_get (D := G.1) (ci := 3) (v := .ref (x 0)) (C := RX3) (T := TX3) (N := 12) hx hb hts (fun w9 h9 => List.mem_cons_of_mem _ (List.mem_append_left _ (List.mem_append_right _ h9))) hown hK hP 0 rfl rfl 11 (by decide) (hts (.fieldLink RX3 3 "GlassHarpModel$State" "this$0" "LGlassHarpModel;") (List.mem_of_getElem? (i := 8) rfl)) (fun _ h9 => h9) rfl dX3_pass_121 ?_
              refine va_getN (D := G.1) (ci := 4) (v := .int (r 4 0)) (C := RX4) (T := TX4) (N := 9) hx hb hts (fun w9 h9 => List.mem_cons_of_mem _ (List.mem_append_right _ h9)) hown hK hP 7 rfl rfl 4 (by decide) (va_Nw.use rfl (hE.2.2 (RX3, 73, "GlassHarpModel", "glasses", "I", RX4) (List.mem_of_getElem? (i := 35) rfl))) (fun _ h9 => h9) rfl dX3_pass_124 ?_
              refine gh_vv (y := nI n) (hn) ?_
              refine lv_icmp_ge (tgt := 193) hx hb dX3_pass_127 (by decide) (fun c_3 => ?_) (fun c_3 => absurd (nI_le (Nat.le_refl _) (Nat.lt_of_le_of_lt hn16 (by decide))) c_3)
              refine lv_aload_n hx hb dX3_pass_193 rfl (lv_at hl 0 rfl) ?_
              refine lv_dup hx hb dX3_pass_194 rfl ?_
              refine va_get (D := G.1) (ci := 3) (v := .int (D 0 0)) (C := RX3) (T := TX3) (N := 12) hx hb hts (fun w9 h9 => List.mem_cons_of_mem _ (List.mem_append_left _ (List.mem_append_right _ h9))) hown hK hP 0 rfl rfl 0 (by decide) (hts (.fieldLink RX3 40 "GlassHarpModel$State" "beat" "I") (List.mem_of_getElem? (i := 9) rfl)) (fun _ h9 => h9) rfl dX3_pass_195 ?_
              refine lv_iconst (v := 1) hx hb dX3_pass_198 (by decide) ?_
              refine lv_iadd hx hb dX3_pass_199 ?_
              refine va_put (D := G.1) (ci := 3) (v := .int ((D 0 0) + 1)) (ty := .int) (C := RX3) (T := TX3) (N := 12) hx hb hts (fun w9 h9 => List.mem_cons_of_mem _ (List.mem_append_left _ (List.mem_append_right _ h9))) tyX3 tyX3_ok nmX3 hown hK hP hD hS 0 rfl rfl 0 (by decide) (hts (.fieldLink RX3 40 "GlassHarpModel$State" "beat" "I") (List.mem_of_getElem? (i := 9) rfl)) (fun _ h9 => h9) rfl (tyX3_ok 0 (by decide)) rfl rfl (Nat.le_of_ble_eq_true rfl) dX3_pass_200 (fun H locs hP hD hS => ?_)
              have hP : va_P G.1 vwCl ((wT G a (x 0) (gh_st D 0 (fun _ => (D 0 0) + 1))) ++ (wM G x s1 s2 r)) H := hP
              have hD : va_D A ((wT G a (x 0) (gh_st D 0 (fun _ => (D 0 0) + 1))) ++ (wM G x s1 s2 r)) := hD
              have hP9 : va_P G.1 vwCl ((wT G a (x 0) (gm_pass r t n nn)) ++ (wM G x s1 s2 r)) H := by
                have e9 : gh_st D 0 (fun _ => (D 0 0) + 1) = gm_pass r t n nn := by first | (simp only [gm_pass, gm_be, ← EB, ← EC, ← ED, c_1, c_2, c_3, ↓reduceIte, if_true, if_false]; done) | (simp only [gm_pass, gm_be, ← EB, ← EC, ← ED]; simp only [c_1, c_2, c_3, ↓reduceIte, if_true, if_false]; done) | (simp [gm_pass, gm_be, ← EB, ← EC, ← ED, c_1, c_2, c_3, ↓reduceIte, if_true, if_false]; done)
                rw [← e9]
                exact hP
              exact W.vret hx hb hr (fun t9 ht hW => ⟨⟨(), rfl, trivial, gh_hp hP9 ht⟩, hS.F ht⟩) hS.2.2 dX3_pass_203
            · intro i hi_lo hi ih
              intro D ED H locs hP hD hS ls hl
              refine lv_iload_n hx hb dX3_pass_119 rfl (lv_at hl 1 rfl) ?_
              refine lv_aload_n hx hb dX3_pass_120 rfl (lv_at hl 0 rfl) ?_
              refine va_get (D := G.1) (ci := 3) (v := .ref (x 0)) (C := RX3) (T := TX3) (N := 12) hx hb hts (fun w9 h9 => List.mem_cons_of_mem _ (List.mem_append_left _ (List.mem_append_right _ h9))) hown hK hP 0 rfl rfl 11 (by decide) (hts (.fieldLink RX3 3 "GlassHarpModel$State" "this$0" "LGlassHarpModel;") (List.mem_of_getElem? (i := 8) rfl)) (fun _ h9 => h9) rfl dX3_pass_121 ?_
              refine va_getN (D := G.1) (ci := 4) (v := .int (r 4 0)) (C := RX4) (T := TX4) (N := 9) hx hb hts (fun w9 h9 => List.mem_cons_of_mem _ (List.mem_append_right _ h9)) hown hK hP 7 rfl rfl 4 (by decide) (va_Nw.use rfl (hE.2.2 (RX3, 73, "GlassHarpModel", "glasses", "I", RX4) (List.mem_of_getElem? (i := 35) rfl))) (fun _ h9 => h9) rfl dX3_pass_124 ?_
              refine gh_vv (y := nI n) (hn) ?_
              refine lv_icmp_ge (tgt := 193) hx hb dX3_pass_127 (by decide) (fun c_4 => absurd c_4 (nI_ge hi (Nat.lt_of_le_of_lt hn16 (by decide)))) (fun c_4 => ?_)
              have J159 : ∀ (F : gh_B), (F = gm_f1 D i) → ∀ (H : Heap) (locs : List Loc), va_P G.1 vwCl ((wT G a (x 0) F) ++ (wM G x s1 s2 r)) H → va_D A ((wT G a (x 0) F) ++ (wM G x s1 s2 r)) → va_S A s.heap H locs → ∀ (ls : Array Slot), lv_has ls 2 [(0, .ref (a 0)), (1, .int (nI i))] → W p l e (headSpec wsX3_pass ({ frames := 4, cells := 0, slots := 0, locals := 88 } : Room)).room s m ([.ref (a 0)] : List Value).toArray below meth c H locs 0 0 (MQ below (va_Qv (fun _ : Unit => True) (fun _ t9 => va_P G.1 vwCl ((wT G a (x 0) (gm_pass r t n nn)) ++ (wM G x s1 s2 r)) t9.heap) A) ([.ref (a 0)] : List Value).toArray s 0 0 A) (F0 m 159 ls []) := by
                intro F EF H locs hP hD hS ls hl
                refine lv_aload_n hx hb dX3_pass_159 rfl (lv_at hl 0 rfl) ?_
                refine va_get (D := G.1) (ci := 3) (v := .int (F 0 0)) (C := RX3) (T := TX3) (N := 12) hx hb hts (fun w9 h9 => List.mem_cons_of_mem _ (List.mem_append_left _ (List.mem_append_right _ h9))) hown hK hP 0 rfl rfl 0 (by decide) (hts (.fieldLink RX3 40 "GlassHarpModel$State" "beat" "I") (List.mem_of_getElem? (i := 9) rfl)) (fun _ h9 => h9) rfl dX3_pass_160 ?_
                refine lv_bipush (v := 8) hx hb dX3_pass_163 (by decide) ?_
                refine lv_irem hx hb dX3_pass_165 (by decide) ?_
                refine lv_if_ne (tgt := 187) hx hb dX3_pass_166 (by decide) (fun c_6 => ?_) (fun c_6 => ?_)
                · skip
                  refine lv_iinc (v := nI (i + 1)) (lv' := [(1, .int (nI (i + 1))), (0, .ref (a 0))]) hx hb dX3_pass_187 hl (k := 1) rfl (nI_1 i) (by decide) rfl (fun ls hl => ?_)
                  refine lv_goto (tgt := 119) hx hb dX3_pass_190 (by decide) ?_
                  exact ih F (by first | (simp only [gm_fd, gm_f2, ← EB, ← EC, ← ED, ← EF, c_1, c_2, c_4, c_6, ↓reduceIte, if_true, if_false]; done) | (simp only [gm_fd, gm_f2, ← EB, ← EC, ← ED, ← EF]; simp only [c_1, c_2, c_4, c_6, ↓reduceIte, if_true, if_false]; done) | (simp [gm_fd, gm_f2, ← EB, ← EC, ← ED, ← EF, c_1, c_2, c_4, c_6, ↓reduceIte, if_true, if_false]; done)) _ _ hP hD hS _ (lv_sub hl [1, 0] rfl)
                · skip
                  refine lv_aload_n hx hb dX3_pass_169 rfl (lv_at hl 0 rfl) ?_
                  refine va_get (D := G.1) (ci := 3) (v := .ref (a 6)) (C := RX3) (T := TX3) (N := 12) hx hb hts (fun w9 h9 => List.mem_cons_of_mem _ (List.mem_append_left _ (List.mem_append_right _ h9))) hown hK hP 0 rfl rfl 6 (by decide) (hts (.fieldLink RX3 22 "GlassHarpModel$State" "drops" "[I") (List.mem_of_getElem? (i := 14) rfl)) (fun _ h9 => h9) rfl dX3_pass_170 ?_
                  refine lv_iload_n hx hb dX3_pass_173 rfl (lv_at hl 1 rfl) ?_
                  refine lv_iconst (v := 0) hx hb dX3_pass_174 (by decide) ?_
                  refine lv_aload_n hx hb dX3_pass_175 rfl (lv_at hl 0 rfl) ?_
                  refine va_get (D := G.1) (ci := 3) (v := .ref (a 6)) (C := RX3) (T := TX3) (N := 12) hx hb hts (fun w9 h9 => List.mem_cons_of_mem _ (List.mem_append_left _ (List.mem_append_right _ h9))) hown hK hP 0 rfl rfl 6 (by decide) (hts (.fieldLink RX3 22 "GlassHarpModel$State" "drops" "[I") (List.mem_of_getElem? (i := 14) rfl)) (fun _ h9 => h9) rfl dX3_pass_176 ?_
                  refine lv_iload_n hx hb dX3_pass_179 rfl (lv_at hl 1 rfl) ?_
                  refine gh_ia (f := F 6) hx hb hK hP 3 0 rfl rfl i (rfl) (Nat.lt_of_lt_of_le hi hn16) (by decide) dX3_pass_180 ?_
                  refine lv_iconst (v := 1) hx hb dX3_pass_181 (by decide) ?_
                  refine lv_isub hx hb dX3_pass_182 ?_
                  refine va_mmax hx hb (hml.trans hl.1.symm) hown (hts (.methodLink RX3 60 Lib.Math.max.name) (List.mem_of_getElem? (i := 11) rfl)) (hts (.static Lib.Math.max.name) (List.mem_of_getElem? (i := 12) rfl)) (hts (.initialized "java/lang/Math") (List.mem_of_getElem? (i := 5) rfl)) (hts (.code Lib.Math.max.name Lib.Math.max.code 2 (some .int)) (List.mem_of_getElem? (i := 13) rfl)) (Nat.le_of_ble_eq_true rfl) (Nat.le_of_ble_eq_true rfl) (Nat.le_of_ble_eq_true rfl) (Nat.le_of_ble_eq_true rfl) dX3_pass_183 ?_
                  refine gh_vv (y := gh_m0 ((F 6 i) - 1)) (rfl) ?_
                  refine gh_is (f := F 6) (ws' := (wT G a (x 0) (gh_st F 6 (upd (F 6) i (gh_m0 ((F 6 i) - 1))))) ++ (wM G x s1 s2 r)) hx hb hK hP hD hS 3 0 rfl rfl i (rfl) (Nat.lt_of_lt_of_le hi hn16) (by decide) dX3_pass_186 rfl (fun H locs hP hD hS => ?_)
                  refine lv_iinc (v := nI (i + 1)) (lv' := [(1, .int (nI (i + 1))), (0, .ref (a 0))]) hx hb dX3_pass_187 hl (k := 1) rfl (nI_1 i) (by decide) rfl (fun ls hl => ?_)
                  refine lv_goto (tgt := 119) hx hb dX3_pass_190 (by decide) ?_
                  exact ih (gh_st F 6 (upd (F 6) i (gh_m0 ((F 6 i) - 1)))) (by first | (simp only [gm_fd, gm_f2, ← EB, ← EC, ← ED, ← EF, c_1, c_2, c_4, c_6, ↓reduceIte, if_true, if_false]; done) | (simp only [gm_fd, gm_f2, ← EB, ← EC, ← ED, ← EF]; simp only [c_1, c_2, c_4, c_6, ↓reduceIte, if_true, if_false]; done) | (simp [gm_fd, gm_f2, ← EB, ← EC, ← ED, ← EF, c_1, c_2, c_4, c_6, ↓reduceIte, if_true, if_false]; done)) _ _ hP hD hS _ (lv_sub hl [1, 0] rfl)
              refine lv_aload_n hx hb dX3_pass_130 rfl (lv_at hl 0 rfl) ?_
              refine va_get (D := G.1) (ci := 3) (v := .int (D 10 0)) (C := RX3) (T := TX3) (N := 12) hx hb hts (fun w9 h9 => List.mem_cons_of_mem _ (List.mem_append_left _ (List.mem_append_right _ h9))) hown hK hP 0 rfl rfl 10 (by decide) (hts (.fieldLink RX3 76 "GlassHarpModel$State" "busy" "I") (List.mem_of_getElem? (i := 7) rfl)) (fun _ h9 => h9) rfl dX3_pass_131 ?_
              refine lv_iload_n hx hb dX3_pass_134 rfl (lv_at hl 1 rfl) ?_
              refine lv_ishr hx hb dX3_pass_135 ?_
              refine lv_iconst (v := 1) hx hb dX3_pass_136 (by decide) ?_
              refine lv_iand hx hb dX3_pass_137 ?_
              refine gh_vv (y := gm_bz D i) (rfl) ?_
              refine lv_if_ne (tgt := 159) hx hb dX3_pass_138 (by decide) (fun c_7 => ?_) (fun c_7 => ?_)
              · skip
                exact J159 D (by first | (simp only [gm_f1, ← EB, ← EC, ← ED, c_1, c_2, c_4, c_7, ↓reduceIte, if_true, if_false]; done) | (simp only [gm_f1, ← EB, ← EC, ← ED]; simp only [c_1, c_2, c_4, c_7, ↓reduceIte, if_true, if_false]; done) | (simp [gm_f1, ← EB, ← EC, ← ED, c_1, c_2, c_4, c_7, ↓reduceIte, if_true, if_false]; done)) _ _ hP hD hS _ (lv_sub hl [0, 1] rfl)
              · skip
                refine lv_aload_n hx hb dX3_pass_141 rfl (lv_at hl 0 rfl) ?_
                refine va_get (D := G.1) (ci := 3) (v := .ref (a 8)) (C := RX3) (T := TX3) (N := 12) hx hb hts (fun w9 h9 => List.mem_cons_of_mem _ (List.mem_append_left _ (List.mem_append_right _ h9))) hown hK hP 0 rfl rfl 8 (by decide) (hts (.fieldLink RX3 28 "GlassHarpModel$State" "ring" "[I") (List.mem_of_getElem? (i := 10) rfl)) (fun _ h9 => h9) rfl dX3_pass_142 ?_
                refine lv_iload_n hx hb dX3_pass_145 rfl (lv_at hl 1 rfl) ?_
                refine lv_iconst (v := 0) hx hb dX3_pass_146 (by decide) ?_
                refine lv_aload_n hx hb dX3_pass_147 rfl (lv_at hl 0 rfl) ?_
                refine va_get (D := G.1) (ci := 3) (v := .ref (a 8)) (C := RX3) (T := TX3) (N := 12) hx hb hts (fun w9 h9 => List.mem_cons_of_mem _ (List.mem_append_left _ (List.mem_append_right _ h9))) hown hK hP 0 rfl rfl 8 (by decide) (hts (.fieldLink RX3 28 "GlassHarpModel$State" "ring" "[I") (List.mem_of_getElem? (i := 10) rfl)) (fun _ h9 => h9) rfl dX3_pass_148 ?_
                refine lv_iload_n hx hb dX3_pass_151 rfl (lv_at hl 1 rfl) ?_
                refine gh_ia (f := D 8) hx hb hK hP 5 0 rfl rfl i (rfl) (Nat.lt_of_lt_of_le hi hn16) (by decide) dX3_pass_152 ?_
                refine lv_iconst (v := 1) hx hb dX3_pass_153 (by decide) ?_
                refine lv_isub hx hb dX3_pass_154 ?_
                refine va_mmax hx hb (hml.trans hl.1.symm) hown (hts (.methodLink RX3 60 Lib.Math.max.name) (List.mem_of_getElem? (i := 11) rfl)) (hts (.static Lib.Math.max.name) (List.mem_of_getElem? (i := 12) rfl)) (hts (.initialized "java/lang/Math") (List.mem_of_getElem? (i := 5) rfl)) (hts (.code Lib.Math.max.name Lib.Math.max.code 2 (some .int)) (List.mem_of_getElem? (i := 13) rfl)) (Nat.le_of_ble_eq_true rfl) (Nat.le_of_ble_eq_true rfl) (Nat.le_of_ble_eq_true rfl) (Nat.le_of_ble_eq_true rfl) dX3_pass_155 ?_
                refine gh_vv (y := gh_m0 ((D 8 i) - 1)) (rfl) ?_
                refine gh_is (f := D 8) (ws' := (wT G a (x 0) (gh_st D 8 (upd (D 8) i (gh_m0 ((D 8 i) - 1))))) ++ (wM G x s1 s2 r)) hx hb hK hP hD hS 5 0 rfl rfl i (rfl) (Nat.lt_of_lt_of_le hi hn16) (by decide) dX3_pass_158 rfl (fun H locs hP hD hS => ?_)
                exact J159 (gh_st D 8 (upd (D 8) i (gh_m0 ((D 8 i) - 1)))) (by first | (simp only [gm_f1, ← EB, ← EC, ← ED, c_1, c_2, c_4, c_7, ↓reduceIte, if_true, if_false]; done) | (simp only [gm_f1, ← EB, ← EC, ← ED]; simp only [c_1, c_2, c_4, c_7, ↓reduceIte, if_true, if_false]; done) | (simp [gm_f1, ← EB, ← EC, ← ED, c_1, c_2, c_4, c_7, ↓reduceIte, if_true, if_false]; done)) _ _ hP hD hS _ (lv_sub hl [0, 1] rfl)
          exact J119 C (by first | (simp only [gm_fd, gm_f2, ← EB, ← EC, c_1, c_2, ↓reduceIte, if_true, if_false]; done) | (simp only [gm_fd, gm_f2, ← EB, ← EC]; simp only [c_1, c_2, ↓reduceIte, if_true, if_false]; done) | (simp [gm_fd, gm_f2, ← EB, ← EC, c_1, c_2, ↓reduceIte, if_true, if_false]; done)) _ _ hP hD hS _ (lv_sub hl [1, 0] rfl)
        · intro i hi_lo hi ih
          intro C EC H locs hP hD hS ls hl
          refine lv_iload_n hx hb dX3_pass_44 rfl (lv_at hl 1 rfl) ?_
          refine lv_aload_n hx hb dX3_pass_45 rfl (lv_at hl 0 rfl) ?_
          refine va_get (D := G.1) (ci := 3) (v := .ref (x 0)) (C := RX3) (T := TX3) (N := 12) hx hb hts (fun w9 h9 => List.mem_cons_of_mem _ (List.mem_append_left _ (List.mem_append_right _ h9))) hown hK hP 0 rfl rfl 11 (by decide) (hts (.fieldLink RX3 3 "GlassHarpModel$State" "this$0" "LGlassHarpModel;") (List.mem_of_getElem? (i := 8) rfl)) (fun _ h9 => h9) rfl dX3_pass_46 ?_
          refine va_getN (D := G.1) (ci := 4) (v := .int (r 2 0)) (C := RX4) (T := TX4) (N := 9) hx hb hts (fun w9 h9 => List.mem_cons_of_mem _ (List.mem_append_right _ h9)) hown hK hP 7 rfl rfl 2 (by decide) (va_Nw.use rfl (hE.2.2 (RX3, 88, "GlassHarpModel", "notes", "I", RX4) (List.mem_of_getElem? (i := 33) rfl))) (fun _ h9 => h9) rfl dX3_pass_49 ?_
          refine gh_vv (y := nI nn) (hz) ?_
          refine lv_icmp_ge (tgt := 117) hx hb dX3_pass_52 (by decide) (fun c_8 => absurd c_8 (nI_ge hi (Nat.lt_of_le_of_lt hz32 (by decide)))) (fun c_8 => ?_)
          refine lv_aload_n hx hb dX3_pass_55 rfl (lv_at hl 0 rfl) ?_
          refine va_get (D := G.1) (ci := 3) (v := .ref (x 0)) (C := RX3) (T := TX3) (N := 12) hx hb hts (fun w9 h9 => List.mem_cons_of_mem _ (List.mem_append_left _ (List.mem_append_right _ h9))) hown hK hP 0 rfl rfl 11 (by decide) (hts (.fieldLink RX3 3 "GlassHarpModel$State" "this$0" "LGlassHarpModel;") (List.mem_of_getElem? (i := 8) rfl)) (fun _ h9 => h9) rfl dX3_pass_56 ?_
          refine va_getN (D := G.1) (ci := 4) (v := .ref (x 3)) (C := RX4) (T := TX4) (N := 9) hx hb hts (fun w9 h9 => List.mem_cons_of_mem _ (List.mem_append_right _ h9)) hown hK hP 7 rfl rfl 3 (by decide) (va_Nw.use rfl (hE.2.2 (RX3, 91, "GlassHarpModel", "score", "[I", RX4) (List.mem_of_getElem? (i := 34) rfl))) (fun _ h9 => h9) rfl dX3_pass_59 ?_
          refine lv_iconst (v := 3) hx hb dX3_pass_62 (by decide) ?_
          refine lv_iload_n hx hb dX3_pass_63 rfl (lv_at hl 1 rfl) ?_
          refine lv_imul hx hb dX3_pass_64 ?_
          refine gh_vv (y := nI (3 * i)) (pk_mul 3 i) ?_
          refine gh_ia (f := r 3) hx hb hK hP 8 0 rfl rfl (3 * i) (rfl) (by omega) (by decide) dX3_pass_65 ?_
          refine lv_aload_n hx hb dX3_pass_66 rfl (lv_at hl 0 rfl) ?_
          refine va_get (D := G.1) (ci := 3) (v := .int (C 0 0)) (C := RX3) (T := TX3) (N := 12) hx hb hts (fun w9 h9 => List.mem_cons_of_mem _ (List.mem_append_left _ (List.mem_append_right _ h9))) hown hK hP 0 rfl rfl 0 (by decide) (hts (.fieldLink RX3 40 "GlassHarpModel$State" "beat" "I") (List.mem_of_getElem? (i := 9) rfl)) (fun _ h9 => h9) rfl dX3_pass_67 ?_
          refine lv_aload_n hx hb dX3_pass_70 rfl (lv_at hl 0 rfl) ?_
          refine va_get (D := G.1) (ci := 3) (v := .ref (x 0)) (C := RX3) (T := TX3) (N := 12) hx hb hts (fun w9 h9 => List.mem_cons_of_mem _ (List.mem_append_left _ (List.mem_append_right _ h9))) hown hK hP 0 rfl rfl 11 (by decide) (hts (.fieldLink RX3 3 "GlassHarpModel$State" "this$0" "LGlassHarpModel;") (List.mem_of_getElem? (i := 8) rfl)) (fun _ h9 => h9) rfl dX3_pass_71 ?_
          refine va_getN (D := G.1) (ci := 4) (v := .int (r 1 0)) (C := RX4) (T := TX4) (N := 9) hx hb hts (fun w9 h9 => List.mem_cons_of_mem _ (List.mem_append_right _ h9)) hown hK hP 7 rfl rfl 1 (by decide) (va_Nw.use rfl (hE.2.2 (RX3, 94, "GlassHarpModel", "length", "I", RX4) (List.mem_of_getElem? (i := 32) rfl))) (fun _ h9 => h9) rfl dX3_pass_74 ?_
          refine lv_irem hx hb dX3_pass_77 (hln) ?_
          refine lv_icmp_ne (tgt := 111) hx hb dX3_pass_78 (by decide) (fun c_9 => ?_) (fun c_9 => ?_)
          · skip
            refine lv_iinc (v := nI (i + 1)) (lv' := [(1, .int (nI (i + 1))), (0, .ref (a 0))]) hx hb dX3_pass_111 hl (k := 1) rfl (nI_1 i) (by decide) rfl (fun ls hl => ?_)
            refine lv_goto (tgt := 44) hx hb dX3_pass_114 (by decide) ?_
            exact ih C (by first | (simp only [gm_ns, ← EB, ← EC, c_1, c_8, c_9, ↓reduceIte, if_true, if_false]; done) | (simp only [gm_ns, ← EB, ← EC]; simp only [c_1, c_8, c_9, ↓reduceIte, if_true, if_false]; done) | (simp [gm_ns, ← EB, ← EC, c_1, c_8, c_9, ↓reduceIte, if_true, if_false]; done)) _ _ hP hD hS _ (lv_sub hl [1, 0] rfl)
          · skip
            refine lv_aload_n hx hb dX3_pass_81 rfl (lv_at hl 0 rfl) ?_
            refine lv_aload_n hx hb dX3_pass_82 rfl (lv_at hl 0 rfl) ?_
            refine va_get (D := G.1) (ci := 3) (v := .ref (x 0)) (C := RX3) (T := TX3) (N := 12) hx hb hts (fun w9 h9 => List.mem_cons_of_mem _ (List.mem_append_left _ (List.mem_append_right _ h9))) hown hK hP 0 rfl rfl 11 (by decide) (hts (.fieldLink RX3 3 "GlassHarpModel$State" "this$0" "LGlassHarpModel;") (List.mem_of_getElem? (i := 8) rfl)) (fun _ h9 => h9) rfl dX3_pass_83 ?_
            refine va_getN (D := G.1) (ci := 4) (v := .ref (x 3)) (C := RX4) (T := TX4) (N := 9) hx hb hts (fun w9 h9 => List.mem_cons_of_mem _ (List.mem_append_right _ h9)) hown hK hP 7 rfl rfl 3 (by decide) (va_Nw.use rfl (hE.2.2 (RX3, 91, "GlassHarpModel", "score", "[I", RX4) (List.mem_of_getElem? (i := 34) rfl))) (fun _ h9 => h9) rfl dX3_pass_86 ?_
            refine lv_iconst (v := 3) hx hb dX3_pass_89 (by decide) ?_
            refine lv_iload_n hx hb dX3_pass_90 rfl (lv_at hl 1 rfl) ?_
            refine lv_imul hx hb dX3_pass_91 ?_
            refine gh_vv (y := nI (3 * i)) (pk_mul 3 i) ?_
            refine lv_iconst (v := 1) hx hb dX3_pass_92 (by decide) ?_
            refine lv_iadd hx hb dX3_pass_93 ?_
            refine gh_vv (y := nI (3 * i + 1)) (nI_1 (3 * i)) ?_
            refine gh_ia (f := r 3) hx hb hK hP 8 0 rfl rfl (3 * i + 1) (rfl) (by omega) (by decide) dX3_pass_94 ?_
            refine lv_aload_n hx hb dX3_pass_95 rfl (lv_at hl 0 rfl) ?_
            refine va_get (D := G.1) (ci := 3) (v := .ref (x 0)) (C := RX3) (T := TX3) (N := 12) hx hb hts (fun w9 h9 => List.mem_cons_of_mem _ (List.mem_append_left _ (List.mem_append_right _ h9))) hown hK hP 0 rfl rfl 11 (by decide) (hts (.fieldLink RX3 3 "GlassHarpModel$State" "this$0" "LGlassHarpModel;") (List.mem_of_getElem? (i := 8) rfl)) (fun _ h9 => h9) rfl dX3_pass_96 ?_
            refine va_getN (D := G.1) (ci := 4) (v := .ref (x 3)) (C := RX4) (T := TX4) (N := 9) hx hb hts (fun w9 h9 => List.mem_cons_of_mem _ (List.mem_append_right _ h9)) hown hK hP 7 rfl rfl 3 (by decide) (va_Nw.use rfl (hE.2.2 (RX3, 91, "GlassHarpModel", "score", "[I", RX4) (List.mem_of_getElem? (i := 34) rfl))) (fun _ h9 => h9) rfl dX3_pass_99 ?_
            refine lv_iconst (v := 3) hx hb dX3_pass_102 (by decide) ?_
            refine lv_iload_n hx hb dX3_pass_103 rfl (lv_at hl 1 rfl) ?_
            refine lv_imul hx hb dX3_pass_104 ?_
            refine gh_vv (y := nI (3 * i)) (pk_mul 3 i) ?_
            refine lv_iconst (v := 2) hx hb dX3_pass_105 (by decide) ?_
            refine lv_iadd hx hb dX3_pass_106 ?_
            refine gh_vv (y := nI (3 * i + 2)) (nI_add (3 * i) 2) ?_
            refine gh_ia (f := r 3) hx hb hK hP 8 0 rfl rfl (3 * i + 2) (rfl) (by omega) (by decide) dX3_pass_107 ?_
            refine gh_cv (wr := []) (ws' := (wT G a (x 0) (gm_cm r C n (r 3 (3 * i + 1)) (r 3 (3 * i + 2)))) ++ (wM G x s1 s2 r)) (va_runV (As := [.int (r 3 (3 * i + 1)), .int (r 3 (3 * i + 2))]) (rest := []) ⟨hx, hb, hml, hown, hts⟩ (c_X3_come l G H.size a C x s1 s2 r n (r 3 (3 * i + 1)) (r 3 (3 * i + 2)) (hn) (hn16) (hsz) (hrw)) (cwV 2 hts gX3_pass_X3_come rfl rfl rfl ⟨rfl, hdS_X3_come⟩ ⟨Nat.le_of_ble_eq_true rfl, Nat.le_of_ble_eq_true rfl⟩) (gh_wV hE hP hD (ci := 3) (q0 := 0) rfl rfl) rfl rfl hl.1 rfl (lv_room (Nat.le_of_ble_eq_true rfl)) dX3_pass_108 ⟨Nat.le_of_ble_eq_true rfl, Nat.le_of_ble_eq_true rfl⟩) hP hD hS hA [0, 1, 2, 3, 4, 5, 6, 7, 8, 9, 10] [] [0, 1, 2, 3, 4, 5, 6, 7, 8, 9, 10] rfl rfl (by decide) (by decide) (by decide) [a 0, a 4, a 5, a 6, a 7, a 8, a 9, x 0, x 3, x 5, x 6] [a 0, a 4, a 5, a 6, a 7, a 8, a 9, x 0, x 3, x 5, x 6] rfl rfl rfl rfl rfl (fun H locs hP hD hS => ?_)
            refine lv_iinc (v := nI (i + 1)) (lv' := [(1, .int (nI (i + 1))), (0, .ref (a 0))]) hx hb dX3_pass_111 hl (k := 1) rfl (nI_1 i) (by decide) rfl (fun ls hl => ?_)
            refine lv_goto (tgt := 44) hx hb dX3_pass_114 (by decide) ?_
            exact ih (gm_cm r C n (r 3 (3 * i + 1)) (r 3 (3 * i + 2))) (by first | (simp only [gm_ns, ← EB, ← EC, c_1, c_8, c_9, ↓reduceIte, if_true, if_false]; done) | (simp only [gm_ns, ← EB, ← EC]; simp only [c_1, c_8, c_9, ↓reduceIte, if_true, if_false]; done) | (simp [gm_ns, ← EB, ← EC, c_1, c_8, c_9, ↓reduceIte, if_true, if_false]; done)) _ _ hP hD hS _ (lv_sub hl [1, 0] rfl)
      exact J44 (gh_st B 10 (fun _ => 0)) (by first | (simp only [gm_ns, ← EB, c_1, ↓reduceIte, if_true, if_false]; done) | (simp only [gm_ns, ← EB]; simp only [c_1, ↓reduceIte, if_true, if_false]; done) | (simp [gm_ns, ← EB, c_1, ↓reduceIte, if_true, if_false]; done)) _ _ hP hD hS _ (lv_sub hl [1, 0] rfl)
    · intro i hi_lo hi ih
      intro B EB H locs hP hD hS ls hl
      refine lv_iload_n hx hb dX3_pass_2 rfl (lv_at hl 1 rfl) ?_
      refine lv_iconst (v := 4) hx hb dX3_pass_3 (by decide) ?_
      refine lv_icmp_ge (tgt := 37) hx hb dX3_pass_4 (by decide) (fun c_10 => absurd c_10 (nI_ge hi (by decide))) (fun c_10 => ?_)
      refine lv_aload_n hx hb dX3_pass_7 rfl (lv_at hl 0 rfl) ?_
      refine va_get (D := G.1) (ci := 3) (v := .ref (a 4)) (C := RX3) (T := TX3) (N := 12) hx hb hts (fun w9 h9 => List.mem_cons_of_mem _ (List.mem_append_left _ (List.mem_append_right _ h9))) hown hK hP 0 rfl rfl 4 (by decide) (hts (.fieldLink RX3 15 "GlassHarpModel$State" "air" "[I") (List.mem_of_getElem? (i := 1) rfl)) (fun _ h9 => h9) rfl dX3_pass_8 ?_
      refine lv_iload_n hx hb dX3_pass_11 rfl (lv_at hl 1 rfl) ?_
      refine lv_bipush (v := 60) hx hb dX3_pass_12 (by decide) ?_
      refine lv_aload_n hx hb dX3_pass_14 rfl (lv_at hl 0 rfl) ?_
      refine va_get (D := G.1) (ci := 3) (v := .ref (a 4)) (C := RX3) (T := TX3) (N := 12) hx hb hts (fun w9 h9 => List.mem_cons_of_mem _ (List.mem_append_left _ (List.mem_append_right _ h9))) hown hK hP 0 rfl rfl 4 (by decide) (hts (.fieldLink RX3 15 "GlassHarpModel$State" "air" "[I") (List.mem_of_getElem? (i := 1) rfl)) (fun _ h9 => h9) rfl dX3_pass_15 ?_
      refine lv_iload_n hx hb dX3_pass_18 rfl (lv_at hl 1 rfl) ?_
      refine gh_ia (f := B 4) hx hb hK hP 1 0 rfl rfl i (rfl) (by omega) (by decide) dX3_pass_19 ?_
      refine lv_aload_n hx hb dX3_pass_20 rfl (lv_at hl 0 rfl) ?_
      refine va_get (D := G.1) (ci := 3) (v := .ref (a 5)) (C := RX3) (T := TX3) (N := 12) hx hb hts (fun w9 h9 => List.mem_cons_of_mem _ (List.mem_append_left _ (List.mem_append_right _ h9))) hown hK hP 0 rfl rfl 5 (by decide) (hts (.fieldLink RX3 19 "GlassHarpModel$State" "pump" "[I") (List.mem_of_getElem? (i := 2) rfl)) (fun _ h9 => h9) rfl dX3_pass_21 ?_
      refine lv_iload_n hx hb dX3_pass_24 rfl (lv_at hl 1 rfl) ?_
      refine gh_ia (f := B 5) hx hb hK hP 2 0 rfl rfl i (rfl) (by omega) (by decide) dX3_pass_25 ?_
      refine lv_iadd hx hb dX3_pass_26 ?_
      refine va_mmin hx hb (hml.trans hl.1.symm) hown (hts (.methodLink RX3 85 Lib.Math.min.name) (List.mem_of_getElem? (i := 3) rfl)) (hts (.static Lib.Math.min.name) (List.mem_of_getElem? (i := 4) rfl)) (hts (.initialized "java/lang/Math") (List.mem_of_getElem? (i := 5) rfl)) (hts (.code Lib.Math.min.name Lib.Math.min.code 2 (some .int)) (List.mem_of_getElem? (i := 6) rfl)) (Nat.le_of_ble_eq_true rfl) (Nat.le_of_ble_eq_true rfl) (Nat.le_of_ble_eq_true rfl) (Nat.le_of_ble_eq_true rfl) dX3_pass_27 ?_
      refine gh_vv (y := gh_mn ((B 4 i) + (B 5 i))) (rfl) ?_
      refine gh_is (f := B 4) (ws' := (wT G a (x 0) (gh_st B 4 (upd (B 4) i (gh_mn ((B 4 i) + (B 5 i)))))) ++ (wM G x s1 s2 r)) hx hb hK hP hD hS 1 0 rfl rfl i (rfl) (by omega) (by decide) dX3_pass_30 rfl (fun H locs hP hD hS => ?_)
      refine lv_iinc (v := nI (i + 1)) (lv' := [(1, .int (nI (i + 1))), (0, .ref (a 0))]) hx hb dX3_pass_31 hl (k := 1) rfl (nI_1 i) (by decide) rfl (fun ls hl => ?_)
      refine lv_goto (tgt := 2) hx hb dX3_pass_34 (by decide) ?_
      exact ih (gh_st B 4 (upd (B 4) i (gh_mn ((B 4 i) + (B 5 i))))) (by first | (simp only [gm_fb, ← EB, c_10, ↓reduceIte, if_true, if_false]; done) | (simp only [gm_fb, ← EB]; simp only [c_10, ↓reduceIte, if_true, if_false]; done) | (simp [gm_fb, ← EB, c_10, ↓reduceIte, if_true, if_false]; done)) _ _ hP hD hS _ (lv_sub hl [1, 0] rfl)
  exact J2 t (by first | (simp only [gm_fb, ↓reduceIte, if_true, if_false]; done) | (simp only [gm_fb, ↓reduceIte, if_true, if_false]; rfl) | (simp [gm_fb, ↓reduceIte, if_true, if_false]; done)) _ _ hP hD hS _ (lv_sub hl [1, 0] rfl)
