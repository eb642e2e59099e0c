set_option maxHeartbeats 4000000 in
set_option maxRecDepth 100000 in
theorem c_X2_set (l : Launch) (hfl : l.stackTraces = false) (G : gh_G) (sz : Nat) (h : Nat) (a : Nat → Nat) (b : Nat → Nat) (d : Nat → Nat) (o : gh_B) (n : Nat) (y : Int32) (u : Int32) (v : Int32) (hn : o 10 0 = nI n) (hn16 : n ≤ 16) : vx_Met l yX2_set wsX2_set ({ frames := 6, cells := 1, slots := 6, locals := 90 } : Room) (gx_w G [.ref h, .int y, .int u, .int v] ((wH h (b 5) (a 0) (d 0)) ++ (wO G a (b 5) o)) sz) (va_Qi (fun (r9 : Int32) (_ : Unit) => r9 = nI n ∧ gc_set n y u v = 0) (fun _ t9 => va_P G.1 vwCl ((wH h (b 5) (a 0) (d 0)) ++ (wO G a (b 5) (gh_ad o n y u v))) t9.heap) (va_A ((wH h (b 5) (a 0) (d 0)) ++ (wO G a (b 5) o)) sz)) (vx_X (fun _ : Unit => True) (fun E9 _ t9 => ((E9 = gx_A ∧ gc_set n y u v = 1) ∨ (E9 = gx_S ∧ gc_set n y u v = 2)) ∧ va_P G.1 vwCl ((wH h (b 5) (a 0) (d 0)) ++ (wO G a (b 5) o)) t9.heap) (va_A ((wH h (b 5) (a 0) (d 0)) ++ (wO G a (b 5) o)) sz)) 1 6 (va_A ((wH h (b 5) (a 0) (d 0)) ++ (wO G a (b 5) o)) sz) := by
  refine vx_ofW (cc := cX2_set) (maxL := 5) (ret := (some .int)) (by decide) rfl ?_
  intro p e s m args below meth c s₁ B hml htab hv
  obtain ⟨rfl, hsz, hP, hE, hD0, hV, hZ⟩ := hv
  have hx := B.exec
  have hb := B.bytes
  have hr := B.returns
  have hts := atoms_spec (ws := wsX2_set) B.pre
  have hown : s.vm.findClass RX2 = some m.cls := findClass_of_methodNamed B.named
  have hlocks := B.notSynchronized
  have hK := hE.1
  subst hsz
  have hD := hD0.self (sz := s.heap.size)
  generalize hAe : va_A ((wH h (b 5) (a 0) (d 0)) ++ (wO G a (b 5) o)) s.heap.size = A at hD hZ ⊢
  have hA : ∀ q : Nat, s.heap.size ≤ q → A q := fun q h => by rw [← hAe]; exact Or.inr h
  have hS : va_S A s.heap s.heap [] := va_S.rf
  have hl := lv_entry ([.ref h, .int y, .int u, .int v]) (n := 5) (Nat.le_of_ble_eq_true rfl)
  rw [lg_entry_eq]
  generalize (lg_sl ([.ref h, .int y, .int u, .int v]) ++ List.replicate (5 - (lg_sl ([.ref h, .int y, .int u, .int v])).length) Slot.unset).toArray = ls at hl ⊢
  have hl : lv_has ls 5 [(0, .ref h), (1, .int y), (2, .int u), (3, .int v)] := hl
  refine lv_iload_n hx hb dX2_set_0 rfl (lv_at hl 1 rfl) ?_
  refine lv_iconst (v := 0) hx hb dX2_set_1 (by decide) ?_
  refine lv_iconst (v := 3) hx hb dX2_set_2 (by decide) ?_
  refine gh_ci (va_runS (As := [.int y, .int 0, .int 3]) (rest := []) ⟨hx, hb, hml, hown, hts⟩ (c_X2_isWithin l G y 0 3) (va_cwS 3 hts gX2_set_X2_isWithin rfl rfl rfl hdS_X2_isWithin ⟨Nat.le_of_ble_eq_true rfl, Nat.le_of_ble_eq_true rfl⟩) (gh_rS hE (fun k q h => by simp at h)) rfl rfl hl.1 rfl (lv_room (Nat.le_of_ble_eq_true rfl)) dX2_set_3 ⟨Nat.le_of_ble_eq_true rfl, Nat.le_of_ble_eq_true rfl⟩) ?_
  refine lv_if_eq (tgt := 19) hx hb dX2_set_6 (by decide) (fun c_1 => ?_) (fun c_1 => ?_)
  · skip
    obtain ⟨sa, hsa⟩ := hV.2.1 (34, "row is not 0 to 3, or size is not 1 to 9") (List.mem_of_getElem? (i := 4) rfl)
    exact vx_throwS (A := A) (names := ["java/lang/RuntimeException", "java/lang/Exception"]) hx hb hfl hown gx_fit_A gx_fit_n (hts (.classLink RX2 32 "java/lang/IllegalArgumentException") (List.mem_of_getElem? (i := 1) rfl)) (hts (.initialized "java/lang/IllegalArgumentException") (List.mem_of_getElem? (i := 2) rfl)) hsa (vx_hat (fun w9 h9 => hts w9 ((fun w9 h9 => List.mem_cons_of_mem _ (List.mem_append_left _ (List.mem_append_right _ h9))) w9 h9)) gx_bad_36 (vx_c (va_Nw.use rfl hV.1.1) (vx_c (va_Nw.use rfl hV.2.2.2.2.2.2.1) (vx_c (va_Nw.use rfl hV.2.2.2.2.2.2.2.1) (vx_c (va_Nw.use rfl hV.2.2.2.2.2.2.2.2) vx_n))))) gx_ot_36 hZ.1 hZ.2 hS (hl.1.trans hml.symm) dX2_set_19 dX2_set_22 dX2_set_23 dX2_set_25 dX2_set_28 (fun x9 h9 => (htab x9 h9).elim) (Nat.le_of_ble_eq_true rfl) (Nat.le_of_ble_eq_true rfl) (Nat.le_of_ble_eq_true rfl) (Nat.le_of_ble_eq_true rfl) hlocks (fun t9 ha9 h1 h2 => gx_x hP hS h1 h2 (Or.inl ⟨rfl, by first | (simp only [gc_set, c_1, ↓reduceIte, if_true, if_false]; done) | (simp only [gc_set]; simp only [c_1, ↓reduceIte, if_true, if_false]; done) | (simp [gc_set, c_1, ↓reduceIte, if_true, if_false]; done)⟩)) hS.2.2 (Nat.le_of_ble_eq_true rfl) (Nat.le_of_ble_eq_true rfl)
  · skip
    refine lv_iload_n hx hb dX2_set_9 rfl (lv_at hl 2 rfl) ?_
    refine lv_iconst (v := 1) hx hb dX2_set_10 (by decide) ?_
    refine lv_bipush (v := 9) hx hb dX2_set_11 (by decide) ?_
    refine gh_ci (va_runS (As := [.int u, .int 1, .int 9]) (rest := []) ⟨hx, hb, hml, hown, hts⟩ (c_X2_isWithin l G u 1 9) (va_cwS 3 hts gX2_set_X2_isWithin rfl rfl rfl hdS_X2_isWithin ⟨Nat.le_of_ble_eq_true rfl, Nat.le_of_ble_eq_true rfl⟩) (gh_rS hE (fun k q h => by simp at h)) rfl rfl hl.1 rfl (lv_room (Nat.le_of_ble_eq_true rfl)) dX2_set_13 ⟨Nat.le_of_ble_eq_true rfl, Nat.le_of_ble_eq_true rfl⟩) ?_
    refine lv_if_ne (tgt := 29) hx hb dX2_set_16 (by decide) (fun c_2 => ?_) (fun c_2 => ?_)
    · skip
      refine lv_iload_n hx hb dX2_set_29 rfl (lv_at hl 3 rfl) ?_
      refine lv_iconst (v := 0) hx hb dX2_set_30 (by decide) ?_
      refine lv_bipush (v := 100) hx hb dX2_set_31 (by decide) ?_
      refine lv_iload_n hx hb dX2_set_33 rfl (lv_at hl 2 rfl) ?_
      refine lv_imul hx hb dX2_set_34 ?_
      refine gh_ci (va_runS (As := [.int v, .int 0, .int (100 * u)]) (rest := []) ⟨hx, hb, hml, hown, hts⟩ (c_X2_isWithin l G v 0 (100 * u)) (va_cwS 3 hts gX2_set_X2_isWithin rfl rfl rfl hdS_X2_isWithin ⟨Nat.le_of_ble_eq_true rfl, Nat.le_of_ble_eq_true rfl⟩) (gh_rS hE (fun k q h => by simp at h)) rfl rfl hl.1 rfl (lv_room (Nat.le_of_ble_eq_true rfl)) dX2_set_35 ⟨Nat.le_of_ble_eq_true rfl, Nat.le_of_ble_eq_true rfl⟩) ?_
      refine lv_if_ne (tgt := 51) hx hb dX2_set_38 (by decide) (fun c_3 => ?_) (fun c_3 => ?_)
      · skip
        refine lv_aload_n hx hb dX2_set_51 rfl (lv_at hl 0 rfl) ?_
        refine va_get (D := G.1) (ci := 2) (v := .ref (a 0)) (C := RX2) (T := TX2) (N := 3) hx hb hts (fun w9 h9 => List.mem_cons_of_mem _ (List.mem_append_left _ (List.mem_append_left _ (List.mem_append_left _ (List.mem_append_right _ h9))))) hown hK hP 0 rfl rfl 1 (by decide) (hts (.fieldLink RX2 21 "GlassHarp" "now" "LGlassHarp$Orchestra;") (List.mem_of_getElem? (i := 5) rfl)) (fun _ h9 => h9) rfl dX2_set_52 ?_
        refine lv_iload_n hx hb dX2_set_55 rfl (lv_at hl 1 rfl) ?_
        refine lv_iload_n hx hb dX2_set_56 rfl (lv_at hl 2 rfl) ?_
        refine lv_iload_n hx hb dX2_set_57 rfl (lv_at hl 3 rfl) ?_
        refine gh_cw (wr := wH h (b 5) (a 0) (d 0)) (ws' := (wH h (b 5) (a 0) (d 0)) ++ (wO G a (b 5) (gh_ad o n y u v))) (va_runVN (As := [.int y, .int u, .int v]) (rest := []) ⟨hx, hb, hml, hown, hts⟩ (c_X0_addGlass l G s.heap.size a (b 5) o n y u v (hn) (hn16)) ⟨va_cnB 3 hts gX2_set_X0_addGlass_n41 rfl rfl rfl (hE.2.1 (RX2, 41, yX0_addGlass, RX2) (List.mem_of_getElem? (i := 12) rfl)) (hts (.initialized RX0) (List.mem_of_getElem? (i := 11) rfl)) hdS_X0_addGlass ⟨Nat.le_of_ble_eq_true rfl, Nat.le_of_ble_eq_true rfl⟩, (hts (.instanceMethod yX0_addGlass) (List.mem_of_getElem? (i := 10) rfl)), (hts (.selects RX0 yX0_addGlass yX0_addGlass) (List.mem_of_getElem? (i := 12) rfl))⟩ (gh_wV hE (hP.sub (ws' := wO G a (b 5) o) [1, 2, 3, 4, 5, 6, 7, 8, 9, 10] rfl) (hD.sub (ws' := wO G a (b 5) o) [1, 2, 3, 4, 5, 6, 7, 8, 9, 10] (by decide) rfl) (ci := 0) (q0 := 0) rfl rfl) rfl rfl hl.1 rfl (lv_room (Nat.le_of_ble_eq_true rfl)) dX2_set_58 ⟨Nat.le_of_ble_eq_true rfl, Nat.le_of_ble_eq_true rfl⟩) hP hD hS hA [1, 2, 3, 4, 5, 6, 7, 8, 9, 10] [0] [0, 1, 2, 3, 4, 5, 6, 7, 8, 9, 10] rfl rfl (by decide) (by decide) (by decide) [a 0, a 1, a 2, a 3, a 4, a 5, a 6, a 7, a 8, a 9] [h, a 0, a 1, a 2, a 3, a 4, a 5, a 6, a 7, a 8, a 9] rfl rfl rfl rfl rfl (fun H locs hP hD hS => ?_)
        refine lv_istore (lv' := [(4, .int (if nI n < 16 then nI n else -1)), (0, .ref h), (1, .int y), (2, .int u), (3, .int v)]) hx hb dX2_set_61 hl (by decide) rfl (fun ls hl => ?_)
        refine lv_iload hx hb dX2_set_63 (lv_at hl 0 rfl) ?_
        refine lv_iconst (v := (-1)) hx hb dX2_set_65 (by decide) ?_
        refine lv_icmp_ne (tgt := 79) hx hb dX2_set_66 (by decide) (fun c_4 => ?_) (fun c_4 => ?_)
        · skip
          have h16 : nI n < 16 := gx_ag c_4
          refine lv_iload hx hb dX2_set_79 (lv_at hl 0 rfl) ?_
          refine W.widen (k := 1) (n := 6) (by omega) (by omega) ?_
          have hP9 := hP
          exact vx_ret (W.iret (v := if nI n < 16 then nI n else -1) hx hb hr (fun t9 ht hW => ⟨⟨if nI n < 16 then nI n else -1, (), rfl, ⟨by rw [if_pos h16], by first | (simp only [gc_set, c_1, c_2, c_3, c_4, h16, ↓reduceIte, if_true, if_false]; done) | (simp only [gc_set]; simp only [c_1, c_2, c_3, c_4, h16, ↓reduceIte, if_true, if_false]; done) | (simp [gc_set, c_1, c_2, c_3, c_4, h16, ↓reduceIte, if_true, if_false]; done)⟩, gh_hp hP9 ht⟩, hS.F ht⟩) hS.2.2 dX2_set_81)
        · skip
          have h16 : ¬ nI n < 16 := gx_ag2 hn16 c_4
          have e9 : gh_ad o n y u v = o := by rw [gh_ad, if_neg h16]
          rw [e9] at hP
          obtain ⟨sa, hsa⟩ := hV.2.1 (47, "there are 16 glasses") (List.mem_of_getElem? (i := 6) rfl)
          exact vx_throwS (A := A) (names := ["java/lang/RuntimeException", "java/lang/Exception"]) hx hb hfl hown gx_fit_S gx_fit_n (hts (.classLink RX2 45 "java/lang/IllegalStateException") (List.mem_of_getElem? (i := 3) rfl)) (hts (.initialized "java/lang/IllegalStateException") (List.mem_of_getElem? (i := 4) rfl)) hsa (vx_hat (fun w9 h9 => hts w9 ((fun w9 h9 => List.mem_cons_of_mem _ (List.mem_append_right _ h9)) w9 h9)) gx_bad_49 (vx_c (va_Nw.use rfl hV.1.2.1) (vx_c (va_Nw.use rfl hV.2.2.2.2.2.2.1) (vx_c (va_Nw.use rfl hV.2.2.2.2.2.2.2.1) (vx_c (va_Nw.use rfl hV.2.2.2.2.2.2.2.2) vx_n))))) gx_ot_49 hZ.1 hZ.2 hS (hl.1.trans hml.symm) dX2_set_69 dX2_set_72 dX2_set_73 dX2_set_75 dX2_set_78 (fun x9 h9 => (htab x9 h9).elim) (Nat.le_of_ble_eq_true rfl) (Nat.le_of_ble_eq_true rfl) (Nat.le_of_ble_eq_true rfl) (Nat.le_of_ble_eq_true rfl) hlocks (fun t9 ha9 h1 h2 => gx_x hP hS h1 h2 (Or.inr (⟨rfl, by first | (simp only [gc_set, c_1, c_2, c_3, c_4, h16, ↓reduceIte, if_true, if_false]; done) | (simp only [gc_set]; simp only [c_1, c_2, c_3, c_4, h16, ↓reduceIte, if_true, if_false]; done) | (simp [gc_set, c_1, c_2, c_3, c_4, h16, ↓reduceIte, if_true, if_false]; done)⟩))) hS.2.2 (Nat.le_of_ble_eq_true rfl) (Nat.le_of_ble_eq_true rfl)
      · skip
        obtain ⟨sa, hsa⟩ := hV.2.1 (39, "drops is not 0 to 100 * size") (List.mem_of_getElem? (i := 5) rfl)
        exact vx_throwS (A := A) (names := ["java/lang/RuntimeException", "java/lang/Exception"]) hx hb hfl hown gx_fit_A gx_fit_n (hts (.classLink RX2 32 "java/lang/IllegalArgumentException") (List.mem_of_getElem? (i := 1) rfl)) (hts (.initialized "java/lang/IllegalArgumentException") (List.mem_of_getElem? (i := 2) rfl)) hsa (vx_hat (fun w9 h9 => hts w9 ((fun w9 h9 => List.mem_cons_of_mem _ (List.mem_append_left _ (List.mem_append_right _ h9))) w9 h9)) gx_bad_36 (vx_c (va_Nw.use rfl hV.1.1) (vx_c (va_Nw.use rfl hV.2.2.2.2.2.2.1) (vx_c (va_Nw.use rfl hV.2.2.2.2.2.2.2.1) (vx_c (va_Nw.use rfl hV.2.2.2.2.2.2.2.2) vx_n))))) gx_ot_36 hZ.1 hZ.2 hS (hl.1.trans hml.symm) dX2_set_41 dX2_set_44 dX2_set_45 dX2_set_47 dX2_set_50 (fun x9 h9 => (htab x9 h9).elim) (Nat.le_of_ble_eq_true rfl) (Nat.le_of_ble_eq_true rfl) (Nat.le_of_ble_eq_true rfl) (Nat.le_of_ble_eq_true rfl) hlocks (fun t9 ha9 h1 h2 => gx_x hP hS h1 h2 (Or.inl ⟨rfl, by first | (simp only [gc_set, c_1, c_2, c_3, ↓reduceIte, if_true, if_false]; done) | (simp only [gc_set]; simp only [c_1, c_2, c_3, ↓reduceIte, if_true, if_false]; done) | (simp [gc_set, c_1, c_2, c_3, ↓reduceIte, if_true, if_false]; done)⟩)) hS.2.2 (Nat.le_of_ble_eq_true rfl) (Nat.le_of_ble_eq_true rfl)
    · skip
      obtain ⟨sa, hsa⟩ := hV.2.1 (34, "row is not 0 to 3, or size is not 1 to 9") (List.mem_of_getElem? (i := 4) rfl)
      exact vx_throwS (A := A) (names := ["java/lang/RuntimeException", "java/lang/Exception"]) hx hb hfl hown gx_fit_A gx_fit_n (hts (.classLink RX2 32 "java/lang/IllegalArgumentException") (List.mem_of_getElem? (i := 1) rfl)) (hts (.initialized "java/lang/IllegalArgumentException") (List.mem_of_getElem? (i := 2) rfl)) hsa (vx_hat (fun w9 h9 => hts w9 ((fun w9 h9 => List.mem_cons_of_mem _ (List.mem_append_left _ (List.mem_append_right _ h9))) w9 h9)) gx_bad_36 (vx_c (va_Nw.use rfl hV.1.1) (vx_c (va_Nw.use rfl hV.2.2.2.2.2.2.1) (vx_c (va_Nw.use rfl hV.2.2.2.2.2.2.2.1) (vx_c (va_Nw.use rfl hV.2.2.2.2.2.2.2.2) vx_n))))) gx_ot_36 hZ.1 hZ.2 hS (hl.1.trans hml.symm) dX2_set_19 dX2_set_22 dX2_set_23 dX2_set_25 dX2_set_28 (fun x9 h9 => (htab x9 h9).elim) (Nat.le_of_ble_eq_true rfl) (Nat.le_of_ble_eq_true rfl) (Nat.le_of_ble_eq_true rfl) (Nat.le_of_ble_eq_true rfl) hlocks (fun t9 ha9 h1 h2 => gx_x hP hS h1 h2 (Or.inl ⟨rfl, by first | (simp only [gc_set, c_1, c_2, ↓reduceIte, if_true, if_false]; done) | (simp only [gc_set]; simp only [c_1, c_2, ↓reduceIte, if_true, if_false]; done) | (simp [gc_set, c_1, c_2, ↓reduceIte, if_true, if_false]; done)⟩)) hS.2.2 (Nat.le_of_ble_eq_true rfl) (Nat.le_of_ble_eq_true rfl)
set_option maxHeartbeats 4000000 in
set_option maxRecDepth 100000 in
theorem c_X2_drop (l : Launch) (hfl : l.stackTraces = false) (G : gh_G) (sz : Nat) (h : Nat) (a : Nat → Nat) (b : Nat → Nat) (d : Nat → Nat) (o : gh_B) (n : Nat) (y : Int32) (v : Int32) (hn : o 10 0 = nI n) (hn16 : n ≤ 16) : vx_Met l yX2_drop wsX2_drop ({ frames := 6, cells := 1, slots := 6, locals := 90 } : Room) (gx_w G [.ref h, .int y, .int v] ((wH h (b 5) (a 0) (d 0)) ++ (wO G a (b 5) o)) sz) (va_Qi (fun (r9 : Int32) (_ : Unit) => r9 = gh_tn (gc_dp o y v) y.toNatClampNeg ∧ gc_drop o y v = 0) (fun _ t9 => va_P G.1 vwCl ((wH h (b 5) (a 0) (d 0)) ++ (wO G a (b 5) (gc_dp o y v))) t9.heap) (va_A ((wH h (b 5) (a 0) (d 0)) ++ (wO G a (b 5) o)) sz)) (vx_X (fun _ : Unit => True) (fun E9 _ t9 => ((E9 = gx_O ∧ gc_drop o y v = 1) ∨ (E9 = gx_A ∧ gc_drop o y v = 2) ∨ (E9 = gx_S ∧ gc_drop o y v = 3)) ∧ va_P G.1 vwCl ((wH h (b 5) (a 0) (d 0)) ++ (wO G a (b 5) o)) t9.heap) (va_A ((wH h (b 5) (a 0) (d 0)) ++ (wO G a (b 5) o)) sz)) 1 6 (va_A ((wH h (b 5) (a 0) (d 0)) ++ (wO G a (b 5) o)) sz) := by
  refine vx_ofW (cc := cX2_drop) (maxL := 4) (ret := (some .int)) (by decide) rfl ?_
  intro p e s m args below meth c s₁ B hml htab hv
  obtain ⟨rfl, hsz, hP, hE, hD0, hV, hZ⟩ := hv
  have hx := B.exec
  have hb := B.bytes
  have hr := B.returns
  have hts := atoms_spec (ws := wsX2_drop) B.pre
  have hown : s.vm.findClass RX2 = some m.cls := findClass_of_methodNamed B.named
  have hlocks := B.notSynchronized
  have hK := hE.1
  subst hsz
  have hD := hD0.self (sz := s.heap.size)
  generalize hAe : va_A ((wH h (b 5) (a 0) (d 0)) ++ (wO G a (b 5) o)) s.heap.size = A at hD hZ ⊢
  have hA : ∀ q : Nat, s.heap.size ≤ q → A q := fun q h => by rw [← hAe]; exact Or.inr h
  have hS : va_S A s.heap s.heap [] := va_S.rf
  have hl := lv_entry ([.ref h, .int y, .int v]) (n := 4) (Nat.le_of_ble_eq_true rfl)
  rw [lg_entry_eq]
  generalize (lg_sl ([.ref h, .int y, .int v]) ++ List.replicate (4 - (lg_sl ([.ref h, .int y, .int v])).length) Slot.unset).toArray = ls at hl ⊢
  have hl : lv_has ls 4 [(0, .ref h), (1, .int y), (2, .int v)] := hl
  refine lv_aload_n hx hb dX2_drop_0 rfl (lv_at hl 0 rfl) ?_
  refine va_get (D := G.1) (ci := 2) (v := .ref (a 0)) (C := RX2) (T := TX2) (N := 3) hx hb hts (fun w9 h9 => List.mem_cons_of_mem _ (List.mem_append_left _ (List.mem_append_left _ (List.mem_append_left _ (List.mem_append_left _ (List.mem_append_right _ h9)))))) hown hK hP 0 rfl rfl 1 (by decide) (hts (.fieldLink RX2 21 "GlassHarp" "now" "LGlassHarp$Orchestra;") (List.mem_of_getElem? (i := 7) rfl)) (fun _ h9 => h9) rfl dX2_drop_1 ?_
  refine lv_iload_n hx hb dX2_drop_4 rfl (lv_at hl 1 rfl) ?_
  refine gh_ci (va_runVN (As := [.int y]) (rest := []) ⟨hx, hb, hml, hown, hts⟩ (c_X0_hasGlass l G a (b 5) o y) ⟨va_cnB 1 hts gX2_drop_X0_hasGlass_n50 rfl rfl rfl (hE.2.1 (RX2, 50, yX0_hasGlass, RX2) (List.mem_of_getElem? (i := 7) rfl)) (hts (.initialized RX0) (List.mem_of_getElem? (i := 9) rfl)) hdS_X0_hasGlass ⟨Nat.le_of_ble_eq_true rfl, Nat.le_of_ble_eq_true rfl⟩, (hts (.instanceMethod yX0_hasGlass) (List.mem_of_getElem? (i := 8) rfl)), (hts (.selects RX0 yX0_hasGlass yX0_hasGlass) (List.mem_of_getElem? (i := 10) rfl))⟩ (gh_rV hE (hP.sub (ws' := wO G a (b 5) o) [1, 2, 3, 4, 5, 6, 7, 8, 9, 10] rfl) (ci := 0) (q0 := 0) rfl rfl) rfl rfl hl.1 rfl (lv_room (Nat.le_of_ble_eq_true rfl)) dX2_drop_5 ⟨Nat.le_of_ble_eq_true rfl, Nat.le_of_ble_eq_true rfl⟩) ?_
  refine lv_if_ne (tgt := 21) hx hb dX2_drop_8 (by decide) (fun c_1 => ?_) (fun c_1 => ?_)
  · skip
    obtain ⟨k, hk, ek⟩ := gh_rg_k c_1 hn (Nat.lt_of_le_of_lt hn16 (by decide))
    have ekc : y.toNatClampNeg = k := by rw [ek, nI_clamp (Nat.lt_trans hk (Nat.lt_of_le_of_lt hn16 (by decide)))]
    refine lv_iload_n hx hb dX2_drop_21 rfl (lv_at hl 2 rfl) ?_
    refine lv_if_eq (tgt := 38) hx hb dX2_drop_22 (by decide) (fun c_2 => ?_) (fun c_2 => ?_)
    · skip
      obtain ⟨sa, hsa⟩ := hV.2.1 (59, "drops is 0, or not -200 to 200") (List.mem_of_getElem? (i := 8) rfl)
      exact vx_throwS (A := A) (names := ["java/lang/RuntimeException", "java/lang/Exception"]) hx hb hfl hown gx_fit_A gx_fit_n (hts (.classLink RX2 32 "java/lang/IllegalArgumentException") (List.mem_of_getElem? (i := 3) rfl)) (hts (.initialized "java/lang/IllegalArgumentException") (List.mem_of_getElem? (i := 4) rfl)) hsa (vx_hat (fun w9 h9 => hts w9 ((fun w9 h9 => List.mem_cons_of_mem _ (List.mem_append_left _ (List.mem_append_right _ h9))) w9 h9)) gx_bad_36 (vx_c (va_Nw.use rfl hV.1.1) (vx_c (va_Nw.use rfl hV.2.2.2.2.2.2.1) (vx_c (va_Nw.use rfl hV.2.2.2.2.2.2.2.1) (vx_c (va_Nw.use rfl hV.2.2.2.2.2.2.2.2) vx_n))))) gx_ot_36 hZ.1 hZ.2 hS (hl.1.trans hml.symm) dX2_drop_38 dX2_drop_41 dX2_drop_42 dX2_drop_44 dX2_drop_47 (fun x9 h9 => (htab x9 h9).elim) (Nat.le_of_ble_eq_true rfl) (Nat.le_of_ble_eq_true rfl) (Nat.le_of_ble_eq_true rfl) (Nat.le_of_ble_eq_true rfl) hlocks (fun t9 ha9 h1 h2 => gx_x hP hS h1 h2 (Or.inr (Or.inl ⟨rfl, by first | (simp only [gc_drop, c_1, ekc, c_2, ↓reduceIte, if_true, if_false]; done) | (simp only [gc_drop]; simp only [c_1, ekc, c_2, ↓reduceIte, if_true, if_false]; done) | (simp [gc_drop, c_1, ekc, c_2, ↓reduceIte, if_true, if_false]; done)⟩))) hS.2.2 (Nat.le_of_ble_eq_true rfl) (Nat.le_of_ble_eq_true rfl)
    · skip
      refine lv_iload_n hx hb dX2_drop_25 rfl (lv_at hl 2 rfl) ?_
      refine lv_sipush (v := (-200)) hx hb dX2_drop_26 (by decide) ?_
      refine lv_sipush (v := 200) hx hb dX2_drop_29 (by decide) ?_
      refine gh_ci (va_runS (As := [.int v, .int (-200), .int 200]) (rest := []) ⟨hx, hb, hml, hown, hts⟩ (c_X2_isWithin l G v (-200) 200) (va_cwS 3 hts gX2_drop_X2_isWithin rfl rfl rfl hdS_X2_isWithin ⟨Nat.le_of_ble_eq_true rfl, Nat.le_of_ble_eq_true rfl⟩) (gh_rS hE (fun k q h => by simp at h)) rfl rfl hl.1 rfl (lv_room (Nat.le_of_ble_eq_true rfl)) dX2_drop_32 ⟨Nat.le_of_ble_eq_true rfl, Nat.le_of_ble_eq_true rfl⟩) ?_
      refine lv_if_ne (tgt := 48) hx hb dX2_drop_35 (by decide) (fun c_3 => ?_) (fun c_3 => ?_)
      · skip
        refine lv_aload_n hx hb dX2_drop_48 rfl (lv_at hl 0 rfl) ?_
        refine va_get (D := G.1) (ci := 2) (v := .ref (a 0)) (C := RX2) (T := TX2) (N := 3) hx hb hts (fun w9 h9 => List.mem_cons_of_mem _ (List.mem_append_left _ (List.mem_append_left _ (List.mem_append_left _ (List.mem_append_left _ (List.mem_append_right _ h9)))))) hown hK hP 0 rfl rfl 1 (by decide) (hts (.fieldLink RX2 21 "GlassHarp" "now" "LGlassHarp$Orchestra;") (List.mem_of_getElem? (i := 7) rfl)) (fun _ h9 => h9) rfl dX2_drop_49 ?_
        refine va_getN (D := G.1) (ci := 0) (v := .ref (a 4)) (C := RX0) (T := TX0) (N := 15) hx hb hts (fun w9 h9 => List.mem_cons_of_mem _ (List.mem_append_left _ (List.mem_append_left _ (List.mem_append_left _ (List.mem_append_right _ h9))))) hown hK hP 1 rfl rfl 4 (by decide) (va_Nw.use rfl (hE.2.2 (RX2, 61, "GlassHarp$Orchestra", "cracked", "[Z", RX2) (List.mem_of_getElem? (i := 12) rfl))) (fun _ h9 => h9) rfl dX2_drop_52 ?_
        refine lv_iload_n hx hb dX2_drop_55 rfl (lv_at hl 1 rfl) ?_
        refine gh_vv (y := nI k) (ek) ?_
        refine gh_za (f := o 4) hx hb hK hP 5 1 rfl rfl k (rfl) (by omega) (by decide) dX2_drop_56 ?_
        refine lv_if_eq (tgt := 70) hx hb dX2_drop_57 (by decide) (fun c_4 => ?_) (fun c_4 => ?_)
        · skip
          refine lv_aload_n hx hb dX2_drop_70 rfl (lv_at hl 0 rfl) ?_
          refine va_get (D := G.1) (ci := 2) (v := .ref (a 0)) (C := RX2) (T := TX2) (N := 3) hx hb hts (fun w9 h9 => List.mem_cons_of_mem _ (List.mem_append_left _ (List.mem_append_left _ (List.mem_append_left _ (List.mem_append_left _ (List.mem_append_right _ h9)))))) hown hK hP 0 rfl rfl 1 (by decide) (hts (.fieldLink RX2 21 "GlassHarp" "now" "LGlassHarp$Orchestra;") (List.mem_of_getElem? (i := 7) rfl)) (fun _ h9 => h9) rfl dX2_drop_71 ?_
          refine va_getN (D := G.1) (ci := 0) (v := .ref (a 3)) (C := RX0) (T := TX0) (N := 15) hx hb hts (fun w9 h9 => List.mem_cons_of_mem _ (List.mem_append_left _ (List.mem_append_left _ (List.mem_append_left _ (List.mem_append_right _ h9))))) hown hK hP 1 rfl rfl 3 (by decide) (va_Nw.use rfl (hE.2.2 (RX2, 67, "GlassHarp$Orchestra", "drops", "[I", RX2) (List.mem_of_getElem? (i := 11) rfl))) (fun _ h9 => h9) rfl dX2_drop_74 ?_
          refine lv_iload_n hx hb dX2_drop_77 rfl (lv_at hl 1 rfl) ?_
          refine gh_vv (y := nI k) (ek) ?_
          refine gh_ia (f := o 3) hx hb hK hP 4 0 rfl rfl k (rfl) (by omega) (by decide) dX2_drop_78 ?_
          refine lv_iload_n hx hb dX2_drop_79 rfl (lv_at hl 2 rfl) ?_
          refine lv_iadd hx hb dX2_drop_80 ?_
          refine lv_istore_n (lv' := [(3, .int ((o 3 k) + v)), (0, .ref h), (1, .int y), (2, .int v)]) hx hb dX2_drop_81 rfl hl (by decide) rfl (fun ls hl => ?_)
          refine lv_iload_n hx hb dX2_drop_82 rfl (lv_at hl 0 rfl) ?_
          refine lv_iconst (v := 0) hx hb dX2_drop_83 (by decide) ?_
          refine lv_aload_n hx hb dX2_drop_84 rfl (lv_at hl 1 rfl) ?_
          refine va_get (D := G.1) (ci := 2) (v := .ref (a 0)) (C := RX2) (T := TX2) (N := 3) hx hb hts (fun w9 h9 => List.mem_cons_of_mem _ (List.mem_append_left _ (List.mem_append_left _ (List.mem_append_left _ (List.mem_append_left _ (List.mem_append_right _ h9)))))) hown hK hP 0 rfl rfl 1 (by decide) (hts (.fieldLink RX2 21 "GlassHarp" "now" "LGlassHarp$Orchestra;") (List.mem_of_getElem? (i := 7) rfl)) (fun _ h9 => h9) rfl dX2_drop_85 ?_
          refine lv_iload_n hx hb dX2_drop_88 rfl (lv_at hl 2 rfl) ?_
          refine gh_vv (y := nI k) (ek) ?_
          refine gh_ci (va_runVN (As := [.int (nI k)]) (rest := [.int 0, .int ((o 3 k) + v)]) ⟨hx, hb, hml, hown, hts⟩ (c_X0_mostDrops l G a (b 5) o n k (hn) (hn16) (hk)) ⟨va_cnB 1 hts gX2_drop_X0_mostDrops_n71 rfl rfl rfl (hE.2.1 (RX2, 71, yX0_mostDrops, RX2) (List.mem_of_getElem? (i := 13) rfl)) (hts (.initialized RX0) (List.mem_of_getElem? (i := 9) rfl)) hdS_X0_mostDrops ⟨Nat.le_of_ble_eq_true rfl, Nat.le_of_ble_eq_true rfl⟩, (hts (.instanceMethod yX0_mostDrops) (List.mem_of_getElem? (i := 17) rfl)), (hts (.selects RX0 yX0_mostDrops yX0_mostDrops) (List.mem_of_getElem? (i := 18) rfl))⟩ (gh_rV hE (hP.sub (ws' := wO G a (b 5) o) [1, 2, 3, 4, 5, 6, 7, 8, 9, 10] rfl) (ci := 0) (q0 := 0) rfl rfl) rfl rfl hl.1 rfl (lv_room (Nat.le_of_ble_eq_true rfl)) dX2_drop_89 ⟨Nat.le_of_ble_eq_true rfl, Nat.le_of_ble_eq_true rfl⟩) ?_
          refine gh_ci (va_runS (As := [.int ((o 3 k) + v), .int 0, .int (100 * o 2 k)]) (rest := []) ⟨hx, hb, hml, hown, hts⟩ (c_X2_isWithin l G ((o 3 k) + v) 0 (100 * o 2 k)) (va_cwS 3 hts gX2_drop_X2_isWithin rfl rfl rfl hdS_X2_isWithin ⟨Nat.le_of_ble_eq_true rfl, Nat.le_of_ble_eq_true rfl⟩) (gh_rS hE (fun k q h => by simp at h)) rfl rfl hl.1 rfl (lv_room (Nat.le_of_ble_eq_true rfl)) dX2_drop_92 ⟨Nat.le_of_ble_eq_true rfl, Nat.le_of_ble_eq_true rfl⟩) ?_
          refine lv_if_ne (tgt := 108) hx hb dX2_drop_95 (by decide) (fun c_5 => ?_) (fun c_5 => ?_)
          · skip
            refine lv_aload_n hx hb dX2_drop_108 rfl (lv_at hl 1 rfl) ?_
            refine va_get (D := G.1) (ci := 2) (v := .ref (a 0)) (C := RX2) (T := TX2) (N := 3) hx hb hts (fun w9 h9 => List.mem_cons_of_mem _ (List.mem_append_left _ (List.mem_append_left _ (List.mem_append_left _ (List.mem_append_left _ (List.mem_append_right _ h9)))))) hown hK hP 0 rfl rfl 1 (by decide) (hts (.fieldLink RX2 21 "GlassHarp" "now" "LGlassHarp$Orchestra;") (List.mem_of_getElem? (i := 7) rfl)) (fun _ h9 => h9) rfl dX2_drop_109 ?_
            refine va_getN (D := G.1) (ci := 0) (v := .ref (a 3)) (C := RX0) (T := TX0) (N := 15) hx hb hts (fun w9 h9 => List.mem_cons_of_mem _ (List.mem_append_left _ (List.mem_append_left _ (List.mem_append_left _ (List.mem_append_right _ h9))))) hown hK hP 1 rfl rfl 3 (by decide) (va_Nw.use rfl (hE.2.2 (RX2, 67, "GlassHarp$Orchestra", "drops", "[I", RX2) (List.mem_of_getElem? (i := 11) rfl))) (fun _ h9 => h9) rfl dX2_drop_112 ?_
            refine lv_iload_n hx hb dX2_drop_115 rfl (lv_at hl 2 rfl) ?_
            refine gh_vv (y := nI k) (ek) ?_
            refine lv_iload_n hx hb dX2_drop_116 rfl (lv_at hl 0 rfl) ?_
            refine gh_is (f := o 3) (ws' := (wH h (b 5) (a 0) (d 0)) ++ (wO G a (b 5) (gh_st o 3 (upd (o 3) k ((o 3 k) + v))))) hx hb hK hP hD hS 4 0 rfl rfl k (rfl) (by omega) (by decide) dX2_drop_117 rfl (fun H locs hP hD hS => ?_)
            refine lv_aload_n hx hb dX2_drop_118 rfl (lv_at hl 1 rfl) ?_
            refine va_get (D := G.1) (ci := 2) (v := .ref (a 0)) (C := RX2) (T := TX2) (N := 3) hx hb hts (fun w9 h9 => List.mem_cons_of_mem _ (List.mem_append_left _ (List.mem_append_left _ (List.mem_append_left _ (List.mem_append_left _ (List.mem_append_right _ h9)))))) hown hK hP 0 rfl rfl 1 (by decide) (hts (.fieldLink RX2 21 "GlassHarp" "now" "LGlassHarp$Orchestra;") (List.mem_of_getElem? (i := 7) rfl)) (fun _ h9 => h9) rfl dX2_drop_119 ?_
            refine lv_iload_n hx hb dX2_drop_122 rfl (lv_at hl 2 rfl) ?_
            refine gh_vv (y := nI k) (ek) ?_
            refine gh_ci (va_runVN (As := [.int (nI k)]) (rest := []) ⟨hx, hb, hml, hown, hts⟩ (c_X0_toneOf l G a (b 5) (gh_st o 3 (upd (o 3) k ((o 3 k) + v))) n k (hn) (hn16) (hk)) ⟨va_cnB 1 hts gX2_drop_X0_toneOf_n77 rfl rfl rfl (hE.2.1 (RX2, 77, yX0_toneOf, RX2) (List.mem_of_getElem? (i := 8) rfl)) (hts (.initialized RX0) (List.mem_of_getElem? (i := 9) rfl)) hdS_X0_toneOf ⟨Nat.le_of_ble_eq_true rfl, Nat.le_of_ble_eq_true rfl⟩, (hts (.instanceMethod yX0_toneOf) (List.mem_of_getElem? (i := 22) rfl)), (hts (.selects RX0 yX0_toneOf yX0_toneOf) (List.mem_of_getElem? (i := 23) rfl))⟩ (gh_rV hE (hP.sub (ws' := wO G a (b 5) (gh_st o 3 (upd (o 3) k ((o 3 k) + v)))) [1, 2, 3, 4, 5, 6, 7, 8, 9, 10] rfl) (ci := 0) (q0 := 0) rfl rfl) rfl rfl hl.1 rfl (lv_room (Nat.le_of_ble_eq_true rfl)) dX2_drop_123 ⟨Nat.le_of_ble_eq_true rfl, Nat.le_of_ble_eq_true rfl⟩) ?_
            refine W.widen (k := 1) (n := 6) (by omega) (by omega) ?_
            have hP9 : va_P G.1 vwCl ((wH h (b 5) (a 0) (d 0)) ++ (wO G a (b 5) (gc_dp o y v))) H := by
              have e9 : gh_st o 3 (upd (o 3) k ((o 3 k) + v)) = gc_dp o y v := by first | (simp only [gc_dp, c_1, ekc, c_2, c_3, c_4, c_5, ↓reduceIte, if_true, if_false]; done) | (simp only [gc_dp]; simp only [c_1, ekc, c_2, c_3, c_4, c_5, ↓reduceIte, if_true, if_false]; done) | (simp [gc_dp, c_1, ekc, c_2, c_3, c_4, c_5, ↓reduceIte, if_true, if_false]; done)
              rw [← e9]
              exact hP
            exact vx_ret (W.iret (v := gh_tn (gh_st o 3 (upd (o 3) k ((o 3 k) + v))) k) hx hb hr (fun t9 ht hW => ⟨⟨gh_tn (gh_st o 3 (upd (o 3) k ((o 3 k) + v))) k, (), rfl, ⟨by first | (simp only [gc_dp, c_1, ekc, c_2, c_3, c_4, c_5, ↓reduceIte, if_true, if_false]; done) | (simp only [gc_dp]; simp only [c_1, ekc, c_2, c_3, c_4, c_5, ↓reduceIte, if_true, if_false]; done) | (simp [gc_dp, c_1, ekc, c_2, c_3, c_4, c_5, ↓reduceIte, if_true, if_false]; done), by first | (simp only [gc_drop, c_1, ekc, c_2, c_3, c_4, c_5, ↓reduceIte, if_true, if_false]; done) | (simp only [gc_drop]; simp only [c_1, ekc, c_2, c_3, c_4, c_5, ↓reduceIte, if_true, if_false]; done) | (simp [gc_drop, c_1, ekc, c_2, c_3, c_4, c_5, ↓reduceIte, if_true, if_false]; done)⟩, gh_hp hP9 ht⟩, hS.F ht⟩) hS.2.2 dX2_drop_126)
          · skip
            obtain ⟨sa, hsa⟩ := hV.2.1 (75, "less than 0 drops, or more than 100 * the size") (List.mem_of_getElem? (i := 10) rfl)
            exact vx_throwS (A := A) (names := ["java/lang/RuntimeException", "java/lang/Exception"]) hx hb hfl hown gx_fit_S gx_fit_n (hts (.classLink RX2 45 "java/lang/IllegalStateException") (List.mem_of_getElem? (i := 5) rfl)) (hts (.initialized "java/lang/IllegalStateException") (List.mem_of_getElem? (i := 6) rfl)) hsa (vx_hat (fun w9 h9 => hts w9 ((fun w9 h9 => List.mem_cons_of_mem _ (List.mem_append_right _ h9)) w9 h9)) gx_bad_49 (vx_c (va_Nw.use rfl hV.1.2.1) (vx_c (va_Nw.use rfl hV.2.2.2.2.2.2.1) (vx_c (va_Nw.use rfl hV.2.2.2.2.2.2.2.1) (vx_c (va_Nw.use rfl hV.2.2.2.2.2.2.2.2) vx_n))))) gx_ot_49 hZ.1 hZ.2 hS (hl.1.trans hml.symm) dX2_drop_98 dX2_drop_101 dX2_drop_102 dX2_drop_104 dX2_drop_107 (fun x9 h9 => (htab x9 h9).elim) (Nat.le_of_ble_eq_true rfl) (Nat.le_of_ble_eq_true rfl) (Nat.le_of_ble_eq_true rfl) (Nat.le_of_ble_eq_true rfl) hlocks (fun t9 ha9 h1 h2 => gx_x hP hS h1 h2 (Or.inr (Or.inr (⟨rfl, by first | (simp only [gc_drop, c_1, ekc, c_2, c_3, c_4, c_5, ↓reduceIte, if_true, if_false]; done) | (simp only [gc_drop]; simp only [c_1, ekc, c_2, c_3, c_4, c_5, ↓reduceIte, if_true, if_false]; done) | (simp [gc_drop, c_1, ekc, c_2, c_3, c_4, c_5, ↓reduceIte, if_true, if_false]; done)⟩)))) hS.2.2 (Nat.le_of_ble_eq_true rfl) (Nat.le_of_ble_eq_true rfl)
        · skip
          obtain ⟨sa, hsa⟩ := hV.2.1 (65, "the glass is cracked") (List.mem_of_getElem? (i := 9) rfl)
          exact vx_throwS (A := A) (names := ["java/lang/RuntimeException", "java/lang/Exception"]) hx hb hfl hown gx_fit_S gx_fit_n (hts (.classLink RX2 45 "java/lang/IllegalStateException") (List.mem_of_getElem? (i := 5) rfl)) (hts (.initialized "java/lang/IllegalStateException") (List.mem_of_getElem? (i := 6) rfl)) hsa (vx_hat (fun w9 h9 => hts w9 ((fun w9 h9 => List.mem_cons_of_mem _ (List.mem_append_right _ h9)) w9 h9)) gx_bad_49 (vx_c (va_Nw.use rfl hV.1.2.1) (vx_c (va_Nw.use rfl hV.2.2.2.2.2.2.1) (vx_c (va_Nw.use rfl hV.2.2.2.2.2.2.2.1) (vx_c (va_Nw.use rfl hV.2.2.2.2.2.2.2.2) vx_n))))) gx_ot_49 hZ.1 hZ.2 hS (hl.1.trans hml.symm) dX2_drop_60 dX2_drop_63 dX2_drop_64 dX2_drop_66 dX2_drop_69 (fun x9 h9 => (htab x9 h9).elim) (Nat.le_of_ble_eq_true rfl) (Nat.le_of_ble_eq_true rfl) (Nat.le_of_ble_eq_true rfl) (Nat.le_of_ble_eq_true rfl) hlocks (fun t9 ha9 h1 h2 => gx_x hP hS h1 h2 (Or.inr (Or.inr (⟨rfl, by first | (simp only [gc_drop, c_1, ekc, c_2, c_3, c_4, ↓reduceIte, if_true, if_false]; done) | (simp only [gc_drop]; simp only [c_1, ekc, c_2, c_3, c_4, ↓reduceIte, if_true, if_false]; done) | (simp [gc_drop, c_1, ekc, c_2, c_3, c_4, ↓reduceIte, if_true, if_false]; done)⟩)))) hS.2.2 (Nat.le_of_ble_eq_true rfl) (Nat.le_of_ble_eq_true rfl)
      · skip
        obtain ⟨sa, hsa⟩ := hV.2.1 (59, "drops is 0, or not -200 to 200") (List.mem_of_getElem? (i := 8) rfl)
        exact vx_throwS (A := A) (names := ["java/lang/RuntimeException", "java/lang/Exception"]) hx hb hfl hown gx_fit_A gx_fit_n (hts (.classLink RX2 32 "java/lang/IllegalArgumentException") (List.mem_of_getElem? (i := 3) rfl)) (hts (.initialized "java/lang/IllegalArgumentException") (List.mem_of_getElem? (i := 4) rfl)) hsa (vx_hat (fun w9 h9 => hts w9 ((fun w9 h9 => List.mem_cons_of_mem _ (List.mem_append_left _ (List.mem_append_right _ h9))) w9 h9)) gx_bad_36 (vx_c (va_Nw.use rfl hV.1.1) (vx_c (va_Nw.use rfl hV.2.2.2.2.2.2.1) (vx_c (va_Nw.use rfl hV.2.2.2.2.2.2.2.1) (vx_c (va_Nw.use rfl hV.2.2.2.2.2.2.2.2) vx_n))))) gx_ot_36 hZ.1 hZ.2 hS (hl.1.trans hml.symm) dX2_drop_38 dX2_drop_41 dX2_drop_42 dX2_drop_44 dX2_drop_47 (fun x9 h9 => (htab x9 h9).elim) (Nat.le_of_ble_eq_true rfl) (Nat.le_of_ble_eq_true rfl) (Nat.le_of_ble_eq_true rfl) (Nat.le_of_ble_eq_true rfl) hlocks (fun t9 ha9 h1 h2 => gx_x hP hS h1 h2 (Or.inr (Or.inl ⟨rfl, by first | (simp only [gc_drop, c_1, ekc, c_2, c_3, ↓reduceIte, if_true, if_false]; done) | (simp only [gc_drop]; simp only [c_1, ekc, c_2, c_3, ↓reduceIte, if_true, if_false]; done) | (simp [gc_drop, c_1, ekc, c_2, c_3, ↓reduceIte, if_true, if_false]; done)⟩))) hS.2.2 (Nat.le_of_ble_eq_true rfl) (Nat.le_of_ble_eq_true rfl)
  · skip
    obtain ⟨sa, hsa⟩ := hV.2.1 (56, "no such glass") (List.mem_of_getElem? (i := 7) rfl)
    exact vx_throwS (A := A) (names := ["java/lang/RuntimeException", "java/lang/Exception"]) hx hb hfl hown gx_fit_O gx_fit_n (hts (.classLink RX2 54 "java/lang/IndexOutOfBoundsException") (List.mem_of_getElem? (i := 1) rfl)) (hts (.initialized "java/lang/IndexOutOfBoundsException") (List.mem_of_getElem? (i := 2) rfl)) hsa (vx_hat (fun w9 h9 => hts w9 ((fun w9 h9 => List.mem_cons_of_mem _ (List.mem_append_left _ (List.mem_append_left _ (List.mem_append_right _ h9)))) w9 h9)) gx_bad_58 (vx_c (va_Nw.use rfl hV.1.2.2) (vx_c (va_Nw.use rfl hV.2.2.2.2.2.2.1) (vx_c (va_Nw.use rfl hV.2.2.2.2.2.2.2.1) (vx_c (va_Nw.use rfl hV.2.2.2.2.2.2.2.2) vx_n))))) gx_ot_58 hZ.1 hZ.2 hS (hl.1.trans hml.symm) dX2_drop_11 dX2_drop_14 dX2_drop_15 dX2_drop_17 dX2_drop_20 (fun x9 h9 => (htab x9 h9).elim) (Nat.le_of_ble_eq_true rfl) (Nat.le_of_ble_eq_true rfl) (Nat.le_of_ble_eq_true rfl) (Nat.le_of_ble_eq_true rfl) hlocks (fun t9 ha9 h1 h2 => gx_x hP hS h1 h2 (Or.inl ⟨rfl, by first | (simp only [gc_drop, c_1, ↓reduceIte, if_true, if_false]; done) | (simp only [gc_drop]; simp only [c_1, ↓reduceIte, if_true, if_false]; done) | (simp [gc_drop, c_1, ↓reduceIte, if_true, if_false]; done)⟩)) hS.2.2 (Nat.le_of_ble_eq_true rfl) (Nat.le_of_ble_eq_true rfl)
set_option maxHeartbeats 4000000 in
set_option maxRecDepth 100000 in
theorem c_X2_pump (l : Launch) (hfl : l.stackTraces = false) (G : gh_G) (sz : Nat) (h : Nat) (a : Nat → Nat) (b : Nat → Nat) (d : Nat → Nat) (o : gh_B) (y : Int32) (v : Int32)  : vx_Met l yX2_pump wsX2_pump ({ frames := 6, cells := 1, slots := 6, locals := 90 } : Room) (gx_w G [.ref h, .int y, .int v] ((wH h (b 5) (a 0) (d 0)) ++ (wO G a (b 5) o)) sz) (va_Qi (fun (r9 : Int32) (_ : Unit) => r9 = o 9 y.toNatClampNeg ∧ gc_k3 (gh_iw y 0 3) (gh_iw v 0 9) = 0) (fun _ t9 => va_P G.1 vwCl ((wH h (b 5) (a 0) (d 0)) ++ (wO G a (b 5) (gh_st o 9 (upd (o 9) y.toNatClampNeg v)))) t9.heap) (va_A ((wH h (b 5) (a 0) (d 0)) ++ (wO G a (b 5) o)) sz)) (vx_X (fun _ : Unit => True) (fun E9 _ t9 => ((E9 = gx_O ∧ gc_k3 (gh_iw y 0 3) (gh_iw v 0 9) = 1) ∨ (E9 = gx_A ∧ gc_k3 (gh_iw y 0 3) (gh_iw v 0 9) = 2)) ∧ va_P G.1 vwCl ((wH h (b 5) (a 0) (d 0)) ++ (wO G a (b 5) o)) t9.heap) (va_A ((wH h (b 5) (a 0) (d 0)) ++ (wO G a (b 5) o)) sz)) 1 6 (va_A ((wH h (b 5) (a 0) (d 0)) ++ (wO G a (b 5) o)) sz) := by
  refine vx_ofW (cc := cX2_pump) (maxL := 4) (ret := (some .int)) (by decide) rfl ?_
  intro p e s m args below meth c s₁ B hml htab hv
  obtain ⟨rfl, hsz, hP, hE, hD0, hV, hZ⟩ := hv
  have hx := B.exec
  have hb := B.bytes
  have hr := B.returns
  have hts := atoms_spec (ws := wsX2_pump) B.pre
  have hown : s.vm.findClass RX2 = some m.cls := findClass_of_methodNamed B.named
  have hlocks := B.notSynchronized
  have hK := hE.1
  subst hsz
  have hD := hD0.self (sz := s.heap.size)
  generalize hAe : va_A ((wH h (b 5) (a 0) (d 0)) ++ (wO G a (b 5) o)) s.heap.size = A at hD hZ ⊢
  have hA : ∀ q : Nat, s.heap.size ≤ q → A q := fun q h => by rw [← hAe]; exact Or.inr h
  have hS : va_S A s.heap s.heap [] := va_S.rf
  have hl := lv_entry ([.ref h, .int y, .int v]) (n := 4) (Nat.le_of_ble_eq_true rfl)
  rw [lg_entry_eq]
  generalize (lg_sl ([.ref h, .int y, .int v]) ++ List.replicate (4 - (lg_sl ([.ref h, .int y, .int v])).length) Slot.unset).toArray = ls at hl ⊢
  have hl : lv_has ls 4 [(0, .ref h), (1, .int y), (2, .int v)] := hl
  refine lv_iload_n hx hb dX2_pump_0 rfl (lv_at hl 1 rfl) ?_
  refine lv_iconst (v := 0) hx hb dX2_pump_1 (by decide) ?_
  refine lv_iconst (v := 3) hx hb dX2_pump_2 (by decide) ?_
  refine gh_ci (va_runS (As := [.int y, .int 0, .int 3]) (rest := []) ⟨hx, hb, hml, hown, hts⟩ (c_X2_isWithin l G y 0 3) (va_cwS 3 hts gX2_pump_X2_isWithin rfl rfl rfl hdS_X2_isWithin ⟨Nat.le_of_ble_eq_true rfl, Nat.le_of_ble_eq_true rfl⟩) (gh_rS hE (fun k q h => by simp at h)) rfl rfl hl.1 rfl (lv_room (Nat.le_of_ble_eq_true rfl)) dX2_pump_3 ⟨Nat.le_of_ble_eq_true rfl, Nat.le_of_ble_eq_true rfl⟩) ?_
  refine lv_if_ne (tgt := 19) hx hb dX2_pump_6 (by decide) (fun c_1 => ?_) (fun c_1 => ?_)
  · skip
    refine lv_iload_n hx hb dX2_pump_19 rfl (lv_at hl 2 rfl) ?_
    refine lv_iconst (v := 0) hx hb dX2_pump_20 (by decide) ?_
    refine lv_bipush (v := 9) hx hb dX2_pump_21 (by decide) ?_
    refine gh_ci (va_runS (As := [.int v, .int 0, .int 9]) (rest := []) ⟨hx, hb, hml, hown, hts⟩ (c_X2_isWithin l G v 0 9) (va_cwS 3 hts gX2_pump_X2_isWithin rfl rfl rfl hdS_X2_isWithin ⟨Nat.le_of_ble_eq_true rfl, Nat.le_of_ble_eq_true rfl⟩) (gh_rS hE (fun k q h => by simp at h)) rfl rfl hl.1 rfl (lv_room (Nat.le_of_ble_eq_true rfl)) dX2_pump_23 ⟨Nat.le_of_ble_eq_true rfl, Nat.le_of_ble_eq_true rfl⟩) ?_
    refine lv_if_ne (tgt := 39) hx hb dX2_pump_26 (by decide) (fun c_2 => ?_) (fun c_2 => ?_)
    · skip
      refine lv_aload_n hx hb dX2_pump_39 rfl (lv_at hl 0 rfl) ?_
      refine va_get (D := G.1) (ci := 2) (v := .ref (a 0)) (C := RX2) (T := TX2) (N := 3) hx hb hts (fun w9 h9 => List.mem_cons_of_mem _ (List.mem_append_left _ (List.mem_append_left _ (List.mem_append_left _ (List.mem_append_right _ h9))))) hown hK hP 0 rfl rfl 1 (by decide) (hts (.fieldLink RX2 21 "GlassHarp" "now" "LGlassHarp$Orchestra;") (List.mem_of_getElem? (i := 5) rfl)) (fun _ h9 => h9) rfl dX2_pump_40 ?_
      refine va_getN (D := G.1) (ci := 0) (v := .ref (a 9)) (C := RX0) (T := TX0) (N := 15) hx hb hts (fun w9 h9 => List.mem_cons_of_mem _ (List.mem_append_left _ (List.mem_append_left _ (List.mem_append_right _ h9)))) hown hK hP 1 rfl rfl 9 (by decide) (va_Nw.use rfl (hE.2.2 (RX2, 84, "GlassHarp$Orchestra", "pumps", "[I", RX2) (List.mem_of_getElem? (i := 16) rfl))) (fun _ h9 => h9) rfl dX2_pump_43 ?_
      refine lv_iload_n hx hb dX2_pump_46 rfl (lv_at hl 1 rfl) ?_
      refine va_iald (f := o 9) hx hb hK hP 10 0 rfl rfl (gh_iw_in c_1) dX2_pump_47 ?_
      refine lv_istore_n (lv' := [(3, .int (o 9 y.toNatClampNeg)), (0, .ref h), (1, .int y), (2, .int v)]) hx hb dX2_pump_48 rfl hl (by decide) rfl (fun ls hl => ?_)
      refine lv_aload_n hx hb dX2_pump_49 rfl (lv_at hl 1 rfl) ?_
      refine va_get (D := G.1) (ci := 2) (v := .ref (a 0)) (C := RX2) (T := TX2) (N := 3) hx hb hts (fun w9 h9 => List.mem_cons_of_mem _ (List.mem_append_left _ (List.mem_append_left _ (List.mem_append_left _ (List.mem_append_right _ h9))))) hown hK hP 0 rfl rfl 1 (by decide) (hts (.fieldLink RX2 21 "GlassHarp" "now" "LGlassHarp$Orchestra;") (List.mem_of_getElem? (i := 5) rfl)) (fun _ h9 => h9) rfl dX2_pump_50 ?_
      refine va_getN (D := G.1) (ci := 0) (v := .ref (a 9)) (C := RX0) (T := TX0) (N := 15) hx hb hts (fun w9 h9 => List.mem_cons_of_mem _ (List.mem_append_left _ (List.mem_append_left _ (List.mem_append_right _ h9)))) hown hK hP 1 rfl rfl 9 (by decide) (va_Nw.use rfl (hE.2.2 (RX2, 84, "GlassHarp$Orchestra", "pumps", "[I", RX2) (List.mem_of_getElem? (i := 16) rfl))) (fun _ h9 => h9) rfl dX2_pump_53 ?_
      refine lv_iload_n hx hb dX2_pump_56 rfl (lv_at hl 2 rfl) ?_
      refine lv_iload_n hx hb dX2_pump_57 rfl (lv_at hl 3 rfl) ?_
      refine va_iast (f := o 9) hx hb hK hP hD hS 10 0 rfl rfl (gh_iw_in c_1) dX2_pump_58 (fun H locs hP hD hS => ?_)
      have hP : va_P G.1 vwCl ((wH h (b 5) (a 0) (d 0)) ++ (wO G a (b 5) (gh_st o 9 (upd (o 9) y.toNatClampNeg v)))) H := hP
      have hD : va_D A ((wH h (b 5) (a 0) (d 0)) ++ (wO G a (b 5) (gh_st o 9 (upd (o 9) y.toNatClampNeg v)))) := hD
      refine lv_iload_n hx hb dX2_pump_59 rfl (lv_at hl 0 rfl) ?_
      refine W.widen (k := 1) (n := 6) (by omega) (by omega) ?_
      have hP9 := hP
      exact vx_ret (W.iret (v := o 9 y.toNatClampNeg) hx hb hr (fun t9 ht hW => ⟨⟨o 9 y.toNatClampNeg, (), rfl, ⟨rfl, by first | (simp only [gc_k3, c_1, c_2, ↓reduceIte, if_true, if_false]; done) | (simp only [gc_k3]; simp only [c_1, c_2, ↓reduceIte, if_true, if_false]; done) | (simp [gc_k3, c_1, c_2, ↓reduceIte, if_true, if_false]; done)⟩, gh_hp hP9 ht⟩, hS.F ht⟩) hS.2.2 dX2_pump_60)
    · skip
      obtain ⟨sa, hsa⟩ := hV.2.1 (82, "pump is not 0 to 9") (List.mem_of_getElem? (i := 12) rfl)
      exact vx_throwS (A := A) (names := ["java/lang/RuntimeException", "java/lang/Exception"]) hx hb hfl hown gx_fit_A gx_fit_n (hts (.classLink RX2 32 "java/lang/IllegalArgumentException") (List.mem_of_getElem? (i := 3) rfl)) (hts (.initialized "java/lang/IllegalArgumentException") (List.mem_of_getElem? (i := 4) rfl)) hsa (vx_hat (fun w9 h9 => hts w9 ((fun w9 h9 => List.mem_cons_of_mem _ (List.mem_append_right _ h9)) w9 h9)) gx_bad_36 (vx_c (va_Nw.use rfl hV.1.1) (vx_c (va_Nw.use rfl hV.2.2.2.2.2.2.1) (vx_c (va_Nw.use rfl hV.2.2.2.2.2.2.2.1) (vx_c (va_Nw.use rfl hV.2.2.2.2.2.2.2.2) vx_n))))) gx_ot_36 hZ.1 hZ.2 hS (hl.1.trans hml.symm) dX2_pump_29 dX2_pump_32 dX2_pump_33 dX2_pump_35 dX2_pump_38 (fun x9 h9 => (htab x9 h9).elim) (Nat.le_of_ble_eq_true rfl) (Nat.le_of_ble_eq_true rfl) (Nat.le_of_ble_eq_true rfl) (Nat.le_of_ble_eq_true rfl) hlocks (fun t9 ha9 h1 h2 => gx_x hP hS h1 h2 (Or.inr (⟨rfl, by first | (simp only [gc_k3, c_1, c_2, ↓reduceIte, if_true, if_false]; done) | (simp only [gc_k3]; simp only [c_1, c_2, ↓reduceIte, if_true, if_false]; done) | (simp [gc_k3, c_1, c_2, ↓reduceIte, if_true, if_false]; done)⟩))) hS.2.2 (Nat.le_of_ble_eq_true rfl) (Nat.le_of_ble_eq_true rfl)
  · skip
    obtain ⟨sa, hsa⟩ := hV.2.1 (80, "row is not 0 to 3") (List.mem_of_getElem? (i := 11) rfl)
    exact vx_throwS (A := A) (names := ["java/lang/RuntimeException", "java/lang/Exception"]) hx hb hfl hown gx_fit_O gx_fit_n (hts (.classLink RX2 54 "java/lang/IndexOutOfBoundsException") (List.mem_of_getElem? (i := 1) rfl)) (hts (.initialized "java/lang/IndexOutOfBoundsException") (List.mem_of_getElem? (i := 2) rfl)) hsa (vx_hat (fun w9 h9 => hts w9 ((fun w9 h9 => List.mem_cons_of_mem _ (List.mem_append_left _ (List.mem_append_right _ h9))) w9 h9)) gx_bad_58 (vx_c (va_Nw.use rfl hV.1.2.2) (vx_c (va_Nw.use rfl hV.2.2.2.2.2.2.1) (vx_c (va_Nw.use rfl hV.2.2.2.2.2.2.2.1) (vx_c (va_Nw.use rfl hV.2.2.2.2.2.2.2.2) vx_n))))) gx_ot_58 hZ.1 hZ.2 hS (hl.1.trans hml.symm) dX2_pump_9 dX2_pump_12 dX2_pump_13 dX2_pump_15 dX2_pump_18 (fun x9 h9 => (htab x9 h9).elim) (Nat.le_of_ble_eq_true rfl) (Nat.le_of_ble_eq_true rfl) (Nat.le_of_ble_eq_true rfl) (Nat.le_of_ble_eq_true rfl) hlocks (fun t9 ha9 h1 h2 => gx_x hP hS h1 h2 (Or.inl ⟨rfl, by first | (simp only [gc_k3, c_1, ↓reduceIte, if_true, if_false]; done) | (simp only [gc_k3]; simp only [c_1, ↓reduceIte, if_true, if_false]; done) | (simp [gc_k3, c_1, ↓reduceIte, if_true, if_false]; done)⟩)) hS.2.2 (Nat.le_of_ble_eq_true rfl) (Nat.le_of_ble_eq_true rfl)
set_option maxHeartbeats 4000000 in
set_option maxRecDepth 100000 in
theorem c_X2_glass (l : Launch) (hfl : l.stackTraces = false) (G : gh_G) (sz : Nat) (h : Nat) (a : Nat → Nat) (b : Nat → Nat) (d : Nat → Nat) (o : gh_B) (n : Nat) (y : Int32) (v : Int32) (hn : o 10 0 = nI n) (hn16 : n ≤ 16) : vx_Met l yX2_glass wsX2_glass ({ frames := 6, cells := 1, slots := 6, locals := 90 } : Room) (gx_w G [.ref h, .int y, .int v] ((wH h (b 5) (a 0) (d 0)) ++ (wO G a (b 5) o)) sz) (va_Qi (fun (r9 : Int32) (_ : Unit) => r9 = gc_gl o n y.toNatClampNeg v.toNatClampNeg ∧ gc_k2 (gh_rg y (o 10 0)) (gh_iw v 0 7) = 0) (fun _ t9 => va_P G.1 vwCl ((wH h (b 5) (a 0) (d 0)) ++ (wO G a (b 5) o)) t9.heap) (va_A ((wH h (b 5) (a 0) (d 0)) ++ (wO G a (b 5) o)) sz)) (vx_X (fun _ : Unit => True) (fun E9 _ t9 => ((E9 = gx_O ∧ gc_k2 (gh_rg y (o 10 0)) (gh_iw v 0 7) = 1)) ∧ va_P G.1 vwCl ((wH h (b 5) (a 0) (d 0)) ++ (wO G a (b 5) o)) t9.heap) (va_A ((wH h (b 5) (a 0) (d 0)) ++ (wO G a (b 5) o)) sz)) 1 6 (va_A ((wH h (b 5) (a 0) (d 0)) ++ (wO G a (b 5) o)) sz) := by
  refine vx_ofW (cc := cX2_glass) (maxL := 3) (ret := (some .int)) (by decide) rfl ?_
  intro p e s m args below meth c s₁ B hml htab hv
  obtain ⟨rfl, hsz, hP, hE, hD0, hV, hZ⟩ := hv
  have hx := B.exec
  have hb := B.bytes
  have hr := B.returns
  have hts := atoms_spec (ws := wsX2_glass) B.pre
  have hown : s.vm.findClass RX2 = some m.cls := findClass_of_methodNamed B.named
  have hlocks := B.notSynchronized
  have hK := hE.1
  subst hsz
  have hD := hD0.self (sz := s.heap.size)
  generalize hAe : va_A ((wH h (b 5) (a 0) (d 0)) ++ (wO G a (b 5) o)) s.heap.size = A at hD hZ ⊢
  have hA : ∀ q : Nat, s.heap.size ≤ q → A q := fun q h => by rw [← hAe]; exact Or.inr h
  have hS : va_S A s.heap s.heap [] := va_S.rf
  have hl := lv_entry ([.ref h, .int y, .int v]) (n := 3) (Nat.le_of_ble_eq_true rfl)
  rw [lg_entry_eq]
  generalize (lg_sl ([.ref h, .int y, .int v]) ++ List.replicate (3 - (lg_sl ([.ref h, .int y, .int v])).length) Slot.unset).toArray = ls at hl ⊢
  have hl : lv_has ls 3 [(0, .ref h), (1, .int y), (2, .int v)] := hl
  refine lv_aload_n hx hb dX2_glass_0 rfl (lv_at hl 0 rfl) ?_
  refine va_get (D := G.1) (ci := 2) (v := .ref (a 0)) (C := RX2) (T := TX2) (N := 3) hx hb hts (fun w9 h9 => List.mem_cons_of_mem _ (List.mem_append_left _ (List.mem_append_left _ (List.mem_append_right _ h9)))) hown hK hP 0 rfl rfl 1 (by decide) (hts (.fieldLink RX2 21 "GlassHarp" "now" "LGlassHarp$Orchestra;") (List.mem_of_getElem? (i := 3) rfl)) (fun _ h9 => h9) rfl dX2_glass_1 ?_
  refine lv_iload_n hx hb dX2_glass_4 rfl (lv_at hl 1 rfl) ?_
  refine gh_ci (va_runVN (As := [.int y]) (rest := []) ⟨hx, hb, hml, hown, hts⟩ (c_X0_hasGlass l G a (b 5) o y) ⟨va_cnB 1 hts gX2_glass_X0_hasGlass_n50 rfl rfl rfl (hE.2.1 (RX2, 50, yX0_hasGlass, RX2) (List.mem_of_getElem? (i := 7) rfl)) (hts (.initialized RX0) (List.mem_of_getElem? (i := 5) rfl)) hdS_X0_hasGlass ⟨Nat.le_of_ble_eq_true rfl, Nat.le_of_ble_eq_true rfl⟩, (hts (.instanceMethod yX0_hasGlass) (List.mem_of_getElem? (i := 4) rfl)), (hts (.selects RX0 yX0_hasGlass yX0_hasGlass) (List.mem_of_getElem? (i := 6) rfl))⟩ (gh_rV hE (hP.sub (ws' := wO G a (b 5) o) [1, 2, 3, 4, 5, 6, 7, 8, 9, 10] rfl) (ci := 0) (q0 := 0) rfl rfl) rfl rfl hl.1 rfl (lv_room (Nat.le_of_ble_eq_true rfl)) dX2_glass_5 ⟨Nat.le_of_ble_eq_true rfl, Nat.le_of_ble_eq_true rfl⟩) ?_
  refine lv_if_eq (tgt := 21) hx hb dX2_glass_8 (by decide) (fun c_1 => ?_) (fun c_1 => ?_)
  · skip
    obtain ⟨sa, hsa⟩ := hV.2.1 (87, "no such glass, or what is not 0 to 7") (List.mem_of_getElem? (i := 1) rfl)
    exact vx_throwS (A := A) (names := ["java/lang/RuntimeException", "java/lang/Exception"]) hx hb hfl hown gx_fit_O gx_fit_n (hts (.classLink RX2 54 "java/lang/IndexOutOfBoundsException") (List.mem_of_getElem? (i := 1) rfl)) (hts (.initialized "java/lang/IndexOutOfBoundsException") (List.mem_of_getElem? (i := 2) rfl)) hsa (vx_hat (fun w9 h9 => hts w9 ((fun w9 h9 => List.mem_cons_of_mem _ (List.mem_append_right _ h9)) w9 h9)) gx_bad_58 (vx_c (va_Nw.use rfl hV.1.2.2) (vx_c (va_Nw.use rfl hV.2.2.2.2.2.2.1) (vx_c (va_Nw.use rfl hV.2.2.2.2.2.2.2.1) (vx_c (va_Nw.use rfl hV.2.2.2.2.2.2.2.2) vx_n))))) gx_ot_58 hZ.1 hZ.2 hS (hl.1.trans hml.symm) dX2_glass_21 dX2_glass_24 dX2_glass_25 dX2_glass_27 dX2_glass_30 (fun x9 h9 => (htab x9 h9).elim) (Nat.le_of_ble_eq_true rfl) (Nat.le_of_ble_eq_true rfl) (Nat.le_of_ble_eq_true rfl) (Nat.le_of_ble_eq_true rfl) hlocks (fun t9 ha9 h1 h2 => gx_x hP hS h1 h2 (⟨rfl, by first | (simp only [gc_k2, c_1, ↓reduceIte, if_true, if_false]; done) | (simp only [gc_k2]; simp only [c_1, ↓reduceIte, if_true, if_false]; done) | (simp [gc_k2, c_1, ↓reduceIte, if_true, if_false]; done)⟩)) hS.2.2 (Nat.le_of_ble_eq_true rfl) (Nat.le_of_ble_eq_true rfl)
  · skip
    obtain ⟨k, hk, ek⟩ := gh_rg_k c_1 hn (Nat.lt_of_le_of_lt hn16 (by decide))
    have ekc : y.toNatClampNeg = k := by rw [ek, nI_clamp (Nat.lt_trans hk (Nat.lt_of_le_of_lt hn16 (by decide)))]
    refine lv_iload_n hx hb dX2_glass_11 rfl (lv_at hl 2 rfl) ?_
    refine lv_iconst (v := 0) hx hb dX2_glass_12 (by decide) ?_
    refine lv_bipush (v := 7) hx hb dX2_glass_13 (by decide) ?_
    refine gh_ci (va_runS (As := [.int v, .int 0, .int 7]) (rest := []) ⟨hx, hb, hml, hown, hts⟩ (c_X2_isWithin l G v 0 7) (va_cwS 3 hts gX2_glass_X2_isWithin rfl rfl rfl hdS_X2_isWithin ⟨Nat.le_of_ble_eq_true rfl, Nat.le_of_ble_eq_true rfl⟩) (gh_rS hE (fun k q h => by simp at h)) rfl rfl hl.1 rfl (lv_room (Nat.le_of_ble_eq_true rfl)) dX2_glass_15 ⟨Nat.le_of_ble_eq_true rfl, Nat.le_of_ble_eq_true rfl⟩) ?_
    refine lv_if_ne (tgt := 31) hx hb dX2_glass_18 (by decide) (fun c_2 => ?_) (fun c_2 => ?_)
    · skip
      obtain ⟨w, hw, ew⟩ := gm_i8 (k := 8) c_2 (by decide) (by decide) (by decide)
      have ewc : v.toNatClampNeg = w := by rw [ew, nI_clamp (Nat.lt_trans hw (by decide))]
      refine lv_iload_n hx hb dX2_glass_31 rfl (lv_at hl 2 rfl) ?_
      refine gh_vv (y := nI w) (ew) ?_
      rcases gx_8 hw with rfl | rfl | rfl | rfl | rfl | rfl | rfl | rfl
      · skip
        refine lv_tableIn (x := nI 0) (off := 44) (tgt := 76) hx hb dX2_glass_32 (by decide) (by decide) (by decide) (by decide) ?_
        refine lv_aload_n hx hb dX2_glass_76 rfl (lv_at hl 0 rfl) ?_
        refine va_get (D := G.1) (ci := 2) (v := .ref (a 0)) (C := RX2) (T := TX2) (N := 3) hx hb hts (fun w9 h9 => List.mem_cons_of_mem _ (List.mem_append_left _ (List.mem_append_left _ (List.mem_append_right _ h9)))) hown hK hP 0 rfl rfl 1 (by decide) (hts (.fieldLink RX2 21 "GlassHarp" "now" "LGlassHarp$Orchestra;") (List.mem_of_getElem? (i := 3) rfl)) (fun _ h9 => h9) rfl dX2_glass_77 ?_
        refine va_getN (D := G.1) (ci := 0) (v := .ref (a 1)) (C := RX0) (T := TX0) (N := 15) hx hb hts (fun w9 h9 => List.mem_cons_of_mem _ (List.mem_append_left _ (List.mem_append_right _ h9))) hown hK hP 1 rfl rfl 1 (by decide) (va_Nw.use rfl (hE.2.2 (RX2, 89, "GlassHarp$Orchestra", "rows", "[I", RX2) (List.mem_of_getElem? (i := 9) rfl))) (fun _ h9 => h9) rfl dX2_glass_80 ?_
        refine lv_iload_n hx hb dX2_glass_83 rfl (lv_at hl 1 rfl) ?_
        refine gh_vv (y := nI k) (ek) ?_
        refine gh_ia (f := o 1) hx hb hK hP 2 0 rfl rfl k (rfl) (by omega) (by decide) dX2_glass_84 ?_
        refine W.widen (k := 1) (n := 6) (by omega) (by omega) ?_
        have hP9 := hP
        exact vx_ret (W.iret (v := o 1 k) hx hb hr (fun t9 ht hW => ⟨⟨o 1 k, (), rfl, ⟨by first | (simp only [gc_gl, c_1, ekc, c_2, ewc, ↓reduceIte, if_true, if_false]; done) | (simp only [gc_gl]; simp only [c_1, ekc, c_2, ewc, ↓reduceIte, if_true, if_false]; done) | (simp [gc_gl, c_1, ekc, c_2, ewc, ↓reduceIte, if_true, if_false]; done), by first | (simp only [gc_k2, c_1, ekc, c_2, ewc, ↓reduceIte, if_true, if_false]; done) | (simp only [gc_k2]; simp only [c_1, ekc, c_2, ewc, ↓reduceIte, if_true, if_false]; done) | (simp [gc_k2, c_1, ekc, c_2, ewc, ↓reduceIte, if_true, if_false]; done)⟩, gh_hp hP9 ht⟩, hS.F ht⟩) hS.2.2 dX2_glass_85)
      · skip
        refine lv_tableIn (x := nI 1) (off := 54) (tgt := 86) hx hb dX2_glass_32 (by decide) (by decide) (by decide) (by decide) ?_
        refine lv_aload_n hx hb dX2_glass_86 rfl (lv_at hl 0 rfl) ?_
        refine va_get (D := G.1) (ci := 2) (v := .ref (a 0)) (C := RX2) (T := TX2) (N := 3) hx hb hts (fun w9 h9 => List.mem_cons_of_mem _ (List.mem_append_left _ (List.mem_append_left _ (List.mem_append_right _ h9)))) hown hK hP 0 rfl rfl 1 (by decide) (hts (.fieldLink RX2 21 "GlassHarp" "now" "LGlassHarp$Orchestra;") (List.mem_of_getElem? (i := 3) rfl)) (fun _ h9 => h9) rfl dX2_glass_87 ?_
        refine va_getN (D := G.1) (ci := 0) (v := .ref (a 2)) (C := RX0) (T := TX0) (N := 15) hx hb hts (fun w9 h9 => List.mem_cons_of_mem _ (List.mem_append_left _ (List.mem_append_right _ h9))) hown hK hP 1 rfl rfl 2 (by decide) (va_Nw.use rfl (hE.2.2 (RX2, 92, "GlassHarp$Orchestra", "sizes", "[I", RX2) (List.mem_of_getElem? (i := 10) rfl))) (fun _ h9 => h9) rfl dX2_glass_90 ?_
        refine lv_iload_n hx hb dX2_glass_93 rfl (lv_at hl 1 rfl) ?_
        refine gh_vv (y := nI k) (ek) ?_
        refine gh_ia (f := o 2) hx hb hK hP 3 0 rfl rfl k (rfl) (by omega) (by decide) dX2_glass_94 ?_
        refine W.widen (k := 1) (n := 6) (by omega) (by omega) ?_
        have hP9 := hP
        exact vx_ret (W.iret (v := o 2 k) hx hb hr (fun t9 ht hW => ⟨⟨o 2 k, (), rfl, ⟨by first | (simp only [gc_gl, c_1, ekc, c_2, ewc, ↓reduceIte, if_true, if_false]; done) | (simp only [gc_gl]; simp only [c_1, ekc, c_2, ewc, ↓reduceIte, if_true, if_false]; done) | (simp [gc_gl, c_1, ekc, c_2, ewc, ↓reduceIte, if_true, if_false]; done), by first | (simp only [gc_k2, c_1, ekc, c_2, ewc, ↓reduceIte, if_true, if_false]; done) | (simp only [gc_k2]; simp only [c_1, ekc, c_2, ewc, ↓reduceIte, if_true, if_false]; done) | (simp [gc_k2, c_1, ekc, c_2, ewc, ↓reduceIte, if_true, if_false]; done)⟩, gh_hp hP9 ht⟩, hS.F ht⟩) hS.2.2 dX2_glass_95)
      · skip
        refine lv_tableIn (x := nI 2) (off := 64) (tgt := 96) hx hb dX2_glass_32 (by decide) (by decide) (by decide) (by decide) ?_
        refine lv_aload_n hx hb dX2_glass_96 rfl (lv_at hl 0 rfl) ?_
        refine va_get (D := G.1) (ci := 2) (v := .ref (a 0)) (C := RX2) (T := TX2) (N := 3) hx hb hts (fun w9 h9 => List.mem_cons_of_mem _ (List.mem_append_left _ (List.mem_append_left _ (List.mem_append_right _ h9)))) hown hK hP 0 rfl rfl 1 (by decide) (hts (.fieldLink RX2 21 "GlassHarp" "now" "LGlassHarp$Orchestra;") (List.mem_of_getElem? (i := 3) rfl)) (fun _ h9 => h9) rfl dX2_glass_97 ?_
        refine va_getN (D := G.1) (ci := 0) (v := .ref (a 3)) (C := RX0) (T := TX0) (N := 15) hx hb hts (fun w9 h9 => List.mem_cons_of_mem _ (List.mem_append_left _ (List.mem_append_right _ h9))) hown hK hP 1 rfl rfl 3 (by decide) (va_Nw.use rfl (hE.2.2 (RX2, 67, "GlassHarp$Orchestra", "drops", "[I", RX2) (List.mem_of_getElem? (i := 11) rfl))) (fun _ h9 => h9) rfl dX2_glass_100 ?_
        refine lv_iload_n hx hb dX2_glass_103 rfl (lv_at hl 1 rfl) ?_
        refine gh_vv (y := nI k) (ek) ?_
        refine gh_ia (f := o 3) hx hb hK hP 4 0 rfl rfl k (rfl) (by omega) (by decide) dX2_glass_104 ?_
        refine W.widen (k := 1) (n := 6) (by omega) (by omega) ?_
        have hP9 := hP
        exact vx_ret (W.iret (v := o 3 k) hx hb hr (fun t9 ht hW => ⟨⟨o 3 k, (), rfl, ⟨by first | (simp only [gc_gl, c_1, ekc, c_2, ewc, ↓reduceIte, if_true, if_false]; done) | (simp only [gc_gl]; simp only [c_1, ekc, c_2, ewc, ↓reduceIte, if_true, if_false]; done) | (simp [gc_gl, c_1, ekc, c_2, ewc, ↓reduceIte, if_true, if_false]; done), by first | (simp only [gc_k2, c_1, ekc, c_2, ewc, ↓reduceIte, if_true, if_false]; done) | (simp only [gc_k2]; simp only [c_1, ekc, c_2, ewc, ↓reduceIte, if_true, if_false]; done) | (simp [gc_k2, c_1, ekc, c_2, ewc, ↓reduceIte, if_true, if_false]; done)⟩, gh_hp hP9 ht⟩, hS.F ht⟩) hS.2.2 dX2_glass_105)
      · skip
        refine lv_tableIn (x := nI 3) (off := 74) (tgt := 106) hx hb dX2_glass_32 (by decide) (by decide) (by decide) (by decide) ?_
        refine lv_aload_n hx hb dX2_glass_106 rfl (lv_at hl 0 rfl) ?_
        refine va_get (D := G.1) (ci := 2) (v := .ref (a 0)) (C := RX2) (T := TX2) (N := 3) hx hb hts (fun w9 h9 => List.mem_cons_of_mem _ (List.mem_append_left _ (List.mem_append_left _ (List.mem_append_right _ h9)))) hown hK hP 0 rfl rfl 1 (by decide) (hts (.fieldLink RX2 21 "GlassHarp" "now" "LGlassHarp$Orchestra;") (List.mem_of_getElem? (i := 3) rfl)) (fun _ h9 => h9) rfl dX2_glass_107 ?_
        refine lv_iload_n hx hb dX2_glass_110 rfl (lv_at hl 1 rfl) ?_
        refine gh_vv (y := nI k) (ek) ?_
        refine gh_ci (va_runVN (As := [.int (nI k)]) (rest := []) ⟨hx, hb, hml, hown, hts⟩ (c_X0_toneOf l G a (b 5) o n k (hn) (hn16) (hk)) ⟨va_cnB 1 hts gX2_glass_X0_toneOf_n77 rfl rfl rfl (hE.2.1 (RX2, 77, yX0_toneOf, RX2) (List.mem_of_getElem? (i := 8) rfl)) (hts (.initialized RX0) (List.mem_of_getElem? (i := 5) rfl)) hdS_X0_toneOf ⟨Nat.le_of_ble_eq_true rfl, Nat.le_of_ble_eq_true rfl⟩, (hts (.instanceMethod yX0_toneOf) (List.mem_of_getElem? (i := 13) rfl)), (hts (.selects RX0 yX0_toneOf yX0_toneOf) (List.mem_of_getElem? (i := 14) rfl))⟩ (gh_rV hE (hP.sub (ws' := wO G a (b 5) o) [1, 2, 3, 4, 5, 6, 7, 8, 9, 10] rfl) (ci := 0) (q0 := 0) rfl rfl) rfl rfl hl.1 rfl (lv_room (Nat.le_of_ble_eq_true rfl)) dX2_glass_111 ⟨Nat.le_of_ble_eq_true rfl, Nat.le_of_ble_eq_true rfl⟩) ?_
        refine W.widen (k := 1) (n := 6) (by omega) (by omega) ?_
        have hP9 := hP
        exact vx_ret (W.iret (v := gh_tn o k) hx hb hr (fun t9 ht hW => ⟨⟨gh_tn o k, (), rfl, ⟨by first | (simp only [gc_gl, c_1, ekc, c_2, ewc, ↓reduceIte, if_true, if_false]; done) | (simp only [gc_gl]; simp only [c_1, ekc, c_2, ewc, ↓reduceIte, if_true, if_false]; done) | (simp [gc_gl, c_1, ekc, c_2, ewc, ↓reduceIte, if_true, if_false]; done), by first | (simp only [gc_k2, c_1, ekc, c_2, ewc, ↓reduceIte, if_true, if_false]; done) | (simp only [gc_k2]; simp only [c_1, ekc, c_2, ewc, ↓reduceIte, if_true, if_false]; done) | (simp [gc_k2, c_1, ekc, c_2, ewc, ↓reduceIte, if_true, if_false]; done)⟩, gh_hp hP9 ht⟩, hS.F ht⟩) hS.2.2 dX2_glass_114)
      · skip
        refine lv_tableIn (x := nI 4) (off := 83) (tgt := 115) hx hb dX2_glass_32 (by decide) (by decide) (by decide) (by decide) ?_
        refine lv_aload_n hx hb dX2_glass_115 rfl (lv_at hl 0 rfl) ?_
        refine va_get (D := G.1) (ci := 2) (v := .ref (a 0)) (C := RX2) (T := TX2) (N := 3) hx hb hts (fun w9 h9 => List.mem_cons_of_mem _ (List.mem_append_left _ (List.mem_append_left _ (List.mem_append_right _ h9)))) hown hK hP 0 rfl rfl 1 (by decide) (hts (.fieldLink RX2 21 "GlassHarp" "now" "LGlassHarp$Orchestra;") (List.mem_of_getElem? (i := 3) rfl)) (fun _ h9 => h9) rfl dX2_glass_116 ?_
        refine va_getN (D := G.1) (ci := 0) (v := .ref (a 4)) (C := RX0) (T := TX0) (N := 15) hx hb hts (fun w9 h9 => List.mem_cons_of_mem _ (List.mem_append_left _ (List.mem_append_right _ h9))) hown hK hP 1 rfl rfl 4 (by decide) (va_Nw.use rfl (hE.2.2 (RX2, 61, "GlassHarp$Orchestra", "cracked", "[Z", RX2) (List.mem_of_getElem? (i := 12) rfl))) (fun _ h9 => h9) rfl dX2_glass_119 ?_
        refine lv_iload_n hx hb dX2_glass_122 rfl (lv_at hl 1 rfl) ?_
        refine gh_vv (y := nI k) (ek) ?_
        refine gh_za (f := o 4) hx hb hK hP 5 1 rfl rfl k (rfl) (by omega) (by decide) dX2_glass_123 ?_
        refine lv_if_eq (tgt := 131) hx hb dX2_glass_124 (by decide) (fun c_3 => ?_) (fun c_3 => ?_)
        · skip
          refine lv_iconst (v := 0) hx hb dX2_glass_131 (by decide) ?_
          refine W.widen (k := 1) (n := 6) (by omega) (by omega) ?_
          have hP9 := hP
          exact vx_ret (W.iret (v := 0) hx hb hr (fun t9 ht hW => ⟨⟨0, (), rfl, ⟨by first | (simp only [gc_gl, c_1, ekc, c_2, ewc, c_3, ↓reduceIte, if_true, if_false]; done) | (simp only [gc_gl]; simp only [c_1, ekc, c_2, ewc, c_3, ↓reduceIte, if_true, if_false]; done) | (simp [gc_gl, c_1, ekc, c_2, ewc, c_3, ↓reduceIte, if_true, if_false]; done), by first | (simp only [gc_k2, c_1, ekc, c_2, ewc, c_3, ↓reduceIte, if_true, if_false]; done) | (simp only [gc_k2]; simp only [c_1, ekc, c_2, ewc, c_3, ↓reduceIte, if_true, if_false]; done) | (simp [gc_k2, c_1, ekc, c_2, ewc, c_3, ↓reduceIte, if_true, if_false]; done)⟩, gh_hp hP9 ht⟩, hS.F ht⟩) hS.2.2 dX2_glass_132)
        · skip
          refine lv_iconst (v := 1) hx hb dX2_glass_127 (by decide) ?_
          refine lv_goto (tgt := 132) hx hb dX2_glass_128 (by decide) ?_
          refine W.widen (k := 1) (n := 6) (by omega) (by omega) ?_
          have hP9 := hP
          exact vx_ret (W.iret (v := 1) hx hb hr (fun t9 ht hW => ⟨⟨1, (), rfl, ⟨by first | (simp only [gc_gl, c_1, ekc, c_2, ewc, c_3, ↓reduceIte, if_true, if_false]; done) | (simp only [gc_gl]; simp only [c_1, ekc, c_2, ewc, c_3, ↓reduceIte, if_true, if_false]; done) | (simp [gc_gl, c_1, ekc, c_2, ewc, c_3, ↓reduceIte, if_true, if_false]; done), by first | (simp only [gc_k2, c_1, ekc, c_2, ewc, c_3, ↓reduceIte, if_true, if_false]; done) | (simp only [gc_k2]; simp only [c_1, ekc, c_2, ewc, c_3, ↓reduceIte, if_true, if_false]; done) | (simp [gc_k2, c_1, ekc, c_2, ewc, c_3, ↓reduceIte, if_true, if_false]; done)⟩, gh_hp hP9 ht⟩, hS.F ht⟩) hS.2.2 dX2_glass_132)
      · skip
        refine lv_tableIn (x := nI 5) (off := 101) (tgt := 133) hx hb dX2_glass_32 (by decide) (by decide) (by decide) (by decide) ?_
        refine lv_aload_n hx hb dX2_glass_133 rfl (lv_at hl 0 rfl) ?_
        refine va_get (D := G.1) (ci := 2) (v := .ref (a 0)) (C := RX2) (T := TX2) (N := 3) hx hb hts (fun w9 h9 => List.mem_cons_of_mem _ (List.mem_append_left _ (List.mem_append_left _ (List.mem_append_right _ h9)))) hown hK hP 0 rfl rfl 1 (by decide) (hts (.fieldLink RX2 21 "GlassHarp" "now" "LGlassHarp$Orchestra;") (List.mem_of_getElem? (i := 3) rfl)) (fun _ h9 => h9) rfl dX2_glass_134 ?_
        refine va_getN (D := G.1) (ci := 0) (v := .ref (a 5)) (C := RX0) (T := TX0) (N := 15) hx hb hts (fun w9 h9 => List.mem_cons_of_mem _ (List.mem_append_left _ (List.mem_append_right _ h9))) hown hK hP 1 rfl rfl 5 (by decide) (va_Nw.use rfl (hE.2.2 (RX2, 95, "GlassHarp$Orchestra", "rings", "[I", RX2) (List.mem_of_getElem? (i := 13) rfl))) (fun _ h9 => h9) rfl dX2_glass_137 ?_
        refine lv_iload_n hx hb dX2_glass_140 rfl (lv_at hl 1 rfl) ?_
        refine gh_vv (y := nI k) (ek) ?_
        refine gh_ia (f := o 5) hx hb hK hP 6 0 rfl rfl k (rfl) (by omega) (by decide) dX2_glass_141 ?_
        refine W.widen (k := 1) (n := 6) (by omega) (by omega) ?_
        have hP9 := hP
        exact vx_ret (W.iret (v := o 5 k) hx hb hr (fun t9 ht hW => ⟨⟨o 5 k, (), rfl, ⟨by first | (simp only [gc_gl, c_1, ekc, c_2, ewc, ↓reduceIte, if_true, if_false]; done) | (simp only [gc_gl]; simp only [c_1, ekc, c_2, ewc, ↓reduceIte, if_true, if_false]; done) | (simp [gc_gl, c_1, ekc, c_2, ewc, ↓reduceIte, if_true, if_false]; done), by first | (simp only [gc_k2, c_1, ekc, c_2, ewc, ↓reduceIte, if_true, if_false]; done) | (simp only [gc_k2]; simp only [c_1, ekc, c_2, ewc, ↓reduceIte, if_true, if_false]; done) | (simp [gc_k2, c_1, ekc, c_2, ewc, ↓reduceIte, if_true, if_false]; done)⟩, gh_hp hP9 ht⟩, hS.F ht⟩) hS.2.2 dX2_glass_142)
      · skip
        refine lv_tableIn (x := nI 6) (off := 111) (tgt := 143) hx hb dX2_glass_32 (by decide) (by decide) (by decide) (by decide) ?_
        refine lv_aload_n hx hb dX2_glass_143 rfl (lv_at hl 0 rfl) ?_
        refine va_get (D := G.1) (ci := 2) (v := .ref (a 0)) (C := RX2) (T := TX2) (N := 3) hx hb hts (fun w9 h9 => List.mem_cons_of_mem _ (List.mem_append_left _ (List.mem_append_left _ (List.mem_append_right _ h9)))) hown hK hP 0 rfl rfl 1 (by decide) (hts (.fieldLink RX2 21 "GlassHarp" "now" "LGlassHarp$Orchestra;") (List.mem_of_getElem? (i := 3) rfl)) (fun _ h9 => h9) rfl dX2_glass_144 ?_
        refine va_getN (D := G.1) (ci := 0) (v := .ref (a 6)) (C := RX0) (T := TX0) (N := 15) hx hb hts (fun w9 h9 => List.mem_cons_of_mem _ (List.mem_append_left _ (List.mem_append_right _ h9))) hown hK hP 1 rfl rfl 6 (by decide) (va_Nw.use rfl (hE.2.2 (RX2, 98, "GlassHarp$Orchestra", "plays", "[I", RX2) (List.mem_of_getElem? (i := 14) rfl))) (fun _ h9 => h9) rfl dX2_glass_147 ?_
        refine lv_iload_n hx hb dX2_glass_150 rfl (lv_at hl 1 rfl) ?_
        refine gh_vv (y := nI k) (ek) ?_
        refine gh_ia (f := o 6) hx hb hK hP 7 0 rfl rfl k (rfl) (by omega) (by decide) dX2_glass_151 ?_
        refine W.widen (k := 1) (n := 6) (by omega) (by omega) ?_
        have hP9 := hP
        exact vx_ret (W.iret (v := o 6 k) hx hb hr (fun t9 ht hW => ⟨⟨o 6 k, (), rfl, ⟨by first | (simp only [gc_gl, c_1, ekc, c_2, ewc, ↓reduceIte, if_true, if_false]; done) | (simp only [gc_gl]; simp only [c_1, ekc, c_2, ewc, ↓reduceIte, if_true, if_false]; done) | (simp [gc_gl, c_1, ekc, c_2, ewc, ↓reduceIte, if_true, if_false]; done), by first | (simp only [gc_k2, c_1, ekc, c_2, ewc, ↓reduceIte, if_true, if_false]; done) | (simp only [gc_k2]; simp only [c_1, ekc, c_2, ewc, ↓reduceIte, if_true, if_false]; done) | (simp [gc_k2, c_1, ekc, c_2, ewc, ↓reduceIte, if_true, if_false]; done)⟩, gh_hp hP9 ht⟩, hS.F ht⟩) hS.2.2 dX2_glass_152)
      · skip
        refine lv_tableOut (x := nI 7) (tgt := 153) hx hb dX2_glass_32 (by decide) (by decide) ?_
        refine lv_aload_n hx hb dX2_glass_153 rfl (lv_at hl 0 rfl) ?_
        refine va_get (D := G.1) (ci := 2) (v := .ref (a 0)) (C := RX2) (T := TX2) (N := 3) hx hb hts (fun w9 h9 => List.mem_cons_of_mem _ (List.mem_append_left _ (List.mem_append_left _ (List.mem_append_right _ h9)))) hown hK hP 0 rfl rfl 1 (by decide) (hts (.fieldLink RX2 21 "GlassHarp" "now" "LGlassHarp$Orchestra;") (List.mem_of_getElem? (i := 3) rfl)) (fun _ h9 => h9) rfl dX2_glass_154 ?_
        refine lv_iload_n hx hb dX2_glass_157 rfl (lv_at hl 1 rfl) ?_
        refine gh_vv (y := nI k) (ek) ?_
        refine gh_ci (va_runVN (As := [.int (nI k)]) (rest := []) ⟨hx, hb, hml, hown, hts⟩ (c_X0_glassesBeatingAgainst l G a (b 5) o n k (hn) (hn16) (hk)) ⟨va_cnB 1 hts gX2_glass_X0_glassesBeatingAgainst_n101 rfl rfl rfl (hE.2.1 (RX2, 101, yX0_glassesBeatingAgainst, RX2) (List.mem_of_getElem? (i := 9) rfl)) (hts (.initialized RX0) (List.mem_of_getElem? (i := 5) rfl)) hdS_X0_glassesBeatingAgainst ⟨Nat.le_of_ble_eq_true rfl, Nat.le_of_ble_eq_true rfl⟩, (hts (.instanceMethod yX0_glassesBeatingAgainst) (List.mem_of_getElem? (i := 29) rfl)), (hts (.selects RX0 yX0_glassesBeatingAgainst yX0_glassesBeatingAgainst) (List.mem_of_getElem? (i := 30) rfl))⟩ (gh_rV hE (hP.sub (ws' := wO G a (b 5) o) [1, 2, 3, 4, 5, 6, 7, 8, 9, 10] rfl) (ci := 0) (q0 := 0) rfl rfl) rfl rfl hl.1 rfl (lv_room (Nat.le_of_ble_eq_true rfl)) dX2_glass_158 ⟨Nat.le_of_ble_eq_true rfl, Nat.le_of_ble_eq_true rfl⟩) ?_
        refine W.widen (k := 1) (n := 6) (by omega) (by omega) ?_
        have hP9 := hP
        exact vx_ret (W.iret (v := gh_cn (gh_ba o k) n) hx hb hr (fun t9 ht hW => ⟨⟨gh_cn (gh_ba o k) n, (), rfl, ⟨by first | (simp only [gc_gl, c_1, ekc, c_2, ewc, ↓reduceIte, if_true, if_false]; done) | (simp only [gc_gl]; simp only [c_1, ekc, c_2, ewc, ↓reduceIte, if_true, if_false]; done) | (simp [gc_gl, c_1, ekc, c_2, ewc, ↓reduceIte, if_true, if_false]; done), by first | (simp only [gc_k2, c_1, ekc, c_2, ewc, ↓reduceIte, if_true, if_false]; done) | (simp only [gc_k2]; simp only [c_1, ekc, c_2, ewc, ↓reduceIte, if_true, if_false]; done) | (simp [gc_k2, c_1, ekc, c_2, ewc, ↓reduceIte, if_true, if_false]; done)⟩, gh_hp hP9 ht⟩, hS.F ht⟩) hS.2.2 dX2_glass_161)
    · skip
      obtain ⟨sa, hsa⟩ := hV.2.1 (87, "no such glass, or what is not 0 to 7") (List.mem_of_getElem? (i := 1) rfl)
      exact vx_throwS (A := A) (names := ["java/lang/RuntimeException", "java/lang/Exception"]) hx hb hfl hown gx_fit_O gx_fit_n (hts (.classLink RX2 54 "java/lang/IndexOutOfBoundsException") (List.mem_of_getElem? (i := 1) rfl)) (hts (.initialized "java/lang/IndexOutOfBoundsException") (List.mem_of_getElem? (i := 2) rfl)) hsa (vx_hat (fun w9 h9 => hts w9 ((fun w9 h9 => List.mem_cons_of_mem _ (List.mem_append_right _ h9)) w9 h9)) gx_bad_58 (vx_c (va_Nw.use rfl hV.1.2.2) (vx_c (va_Nw.use rfl hV.2.2.2.2.2.2.1) (vx_c (va_Nw.use rfl hV.2.2.2.2.2.2.2.1) (vx_c (va_Nw.use rfl hV.2.2.2.2.2.2.2.2) vx_n))))) gx_ot_58 hZ.1 hZ.2 hS (hl.1.trans hml.symm) dX2_glass_21 dX2_glass_24 dX2_glass_25 dX2_glass_27 dX2_glass_30 (fun x9 h9 => (htab x9 h9).elim) (Nat.le_of_ble_eq_true rfl) (Nat.le_of_ble_eq_true rfl) (Nat.le_of_ble_eq_true rfl) (Nat.le_of_ble_eq_true rfl) hlocks (fun t9 ha9 h1 h2 => gx_x hP hS h1 h2 (⟨rfl, by first | (simp only [gc_k2, c_1, ekc, c_2, ↓reduceIte, if_true, if_false]; done) | (simp only [gc_k2]; simp only [c_1, ekc, c_2, ↓reduceIte, if_true, if_false]; done) | (simp [gc_k2, c_1, ekc, c_2, ↓reduceIte, if_true, if_false]; done)⟩)) hS.2.2 (Nat.le_of_ble_eq_true rfl) (Nat.le_of_ble_eq_true rfl)
set_option maxHeartbeats 4000000 in
set_option maxRecDepth 100000 in
theorem c_X2_row (l : Launch) (hfl : l.stackTraces = false) (G : gh_G) (sz : Nat) (h : Nat) (a : Nat → Nat) (b : Nat → Nat) (d : Nat → Nat) (o : gh_B) (n : Nat) (y : Int32) (v : Int32) (hn : o 10 0 = nI n) (hn16 : n ≤ 16) : vx_Met l yX2_row wsX2_row ({ frames := 6, cells := 1, slots := 6, locals := 90 } : Room) (gx_w G [.ref h, .int y, .int v] ((wH h (b 5) (a 0) (d 0)) ++ (wO G a (b 5) o)) sz) (va_Qi (fun (r9 : Int32) (_ : Unit) => r9 = gc_rw o n y v.toNatClampNeg ∧ gc_k2 (gh_iw y 0 3) (gh_iw v 0 2) = 0) (fun _ t9 => va_P G.1 vwCl ((wH h (b 5) (a 0) (d 0)) ++ (wO G a (b 5) o)) t9.heap) (va_A ((wH h (b 5) (a 0) (d 0)) ++ (wO G a (b 5) o)) sz)) (vx_X (fun _ : Unit => True) (fun E9 _ t9 => ((E9 = gx_O ∧ gc_k2 (gh_iw y 0 3) (gh_iw v 0 2) = 1)) ∧ va_P G.1 vwCl ((wH h (b 5) (a 0) (d 0)) ++ (wO G a (b 5) o)) t9.heap) (va_A ((wH h (b 5) (a 0) (d 0)) ++ (wO G a (b 5) o)) sz)) 1 6 (va_A ((wH h (b 5) (a 0) (d 0)) ++ (wO G a (b 5) o)) sz) := by
  refine vx_ofW (cc := cX2_row) (maxL := 3) (ret := (some .int)) (by decide) rfl ?_
  intro p e s m args below meth c s₁ B hml htab hv
  obtain ⟨rfl, hsz, hP, hE, hD0, hV, hZ⟩ := hv
  have hx := B.exec
  have hb := B.bytes
  have hr := B.returns
  have hts := atoms_spec (ws := wsX2_row) B.pre
  have hown : s.vm.findClass RX2 = some m.cls := findClass_of_methodNamed B.named
  have hlocks := B.notSynchronized
  have hK := hE.1
  subst hsz
  have hD := hD0.self (sz := s.heap.size)
  generalize hAe : va_A ((wH h (b 5) (a 0) (d 0)) ++ (wO G a (b 5) o)) s.heap.size = A at hD hZ ⊢
  have hA : ∀ q : Nat, s.heap.size ≤ q → A q := fun q h => by rw [← hAe]; exact Or.inr h
  have hS : va_S A s.heap s.heap [] := va_S.rf
  have hl := lv_entry ([.ref h, .int y, .int v]) (n := 3) (Nat.le_of_ble_eq_true rfl)
  rw [lg_entry_eq]
  generalize (lg_sl ([.ref h, .int y, .int v]) ++ List.replicate (3 - (lg_sl ([.ref h, .int y, .int v])).length) Slot.unset).toArray = ls at hl ⊢
  have hl : lv_has ls 3 [(0, .ref h), (1, .int y), (2, .int v)] := hl
  refine lv_iload_n hx hb dX2_row_0 rfl (lv_at hl 1 rfl) ?_
  refine lv_iconst (v := 0) hx hb dX2_row_1 (by decide) ?_
  refine lv_iconst (v := 3) hx hb dX2_row_2 (by decide) ?_
  refine gh_ci (va_runS (As := [.int y, .int 0, .int 3]) (rest := []) ⟨hx, hb, hml, hown, hts⟩ (c_X2_isWithin l G y 0 3) (va_cwS 3 hts gX2_row_X2_isWithin rfl rfl rfl hdS_X2_isWithin ⟨Nat.le_of_ble_eq_true rfl, Nat.le_of_ble_eq_true rfl⟩) (gh_rS hE (fun k q h => by simp at h)) rfl rfl hl.1 rfl (lv_room (Nat.le_of_ble_eq_true rfl)) dX2_row_3 ⟨Nat.le_of_ble_eq_true rfl, Nat.le_of_ble_eq_true rfl⟩) ?_
  refine lv_if_eq (tgt := 18) hx hb dX2_row_6 (by decide) (fun c_1 => ?_) (fun c_1 => ?_)
  · skip
    obtain ⟨sa, hsa⟩ := hV.2.1 (104, "row is not 0 to 3, or what is not 0 to 2") (List.mem_of_getElem? (i := 2) rfl)
    exact vx_throwS (A := A) (names := ["java/lang/RuntimeException", "java/lang/Exception"]) hx hb hfl hown gx_fit_O gx_fit_n (hts (.classLink RX2 54 "java/lang/IndexOutOfBoundsException") (List.mem_of_getElem? (i := 1) rfl)) (hts (.initialized "java/lang/IndexOutOfBoundsException") (List.mem_of_getElem? (i := 2) rfl)) hsa (vx_hat (fun w9 h9 => hts w9 ((fun w9 h9 => List.mem_cons_of_mem _ (List.mem_append_right _ h9)) w9 h9)) gx_bad_58 (vx_c (va_Nw.use rfl hV.1.2.2) (vx_c (va_Nw.use rfl hV.2.2.2.2.2.2.1) (vx_c (va_Nw.use rfl hV.2.2.2.2.2.2.2.1) (vx_c (va_Nw.use rfl hV.2.2.2.2.2.2.2.2) vx_n))))) gx_ot_58 hZ.1 hZ.2 hS (hl.1.trans hml.symm) dX2_row_18 dX2_row_21 dX2_row_22 dX2_row_24 dX2_row_27 (fun x9 h9 => (htab x9 h9).elim) (Nat.le_of_ble_eq_true rfl) (Nat.le_of_ble_eq_true rfl) (Nat.le_of_ble_eq_true rfl) (Nat.le_of_ble_eq_true rfl) hlocks (fun t9 ha9 h1 h2 => gx_x hP hS h1 h2 (⟨rfl, by first | (simp only [gc_k2, c_1, ↓reduceIte, if_true, if_false]; done) | (simp only [gc_k2]; simp only [c_1, ↓reduceIte, if_true, if_false]; done) | (simp [gc_k2, c_1, ↓reduceIte, if_true, if_false]; done)⟩)) hS.2.2 (Nat.le_of_ble_eq_true rfl) (Nat.le_of_ble_eq_true rfl)
  · skip
    refine lv_iload_n hx hb dX2_row_9 rfl (lv_at hl 2 rfl) ?_
    refine lv_iconst (v := 0) hx hb dX2_row_10 (by decide) ?_
    refine lv_iconst (v := 2) hx hb dX2_row_11 (by decide) ?_
    refine gh_ci (va_runS (As := [.int v, .int 0, .int 2]) (rest := []) ⟨hx, hb, hml, hown, hts⟩ (c_X2_isWithin l G v 0 2) (va_cwS 3 hts gX2_row_X2_isWithin rfl rfl rfl hdS_X2_isWithin ⟨Nat.le_of_ble_eq_true rfl, Nat.le_of_ble_eq_true rfl⟩) (gh_rS hE (fun k q h => by simp at h)) rfl rfl hl.1 rfl (lv_room (Nat.le_of_ble_eq_true rfl)) dX2_row_12 ⟨Nat.le_of_ble_eq_true rfl, Nat.le_of_ble_eq_true rfl⟩) ?_
    refine lv_if_ne (tgt := 28) hx hb dX2_row_15 (by decide) (fun c_2 => ?_) (fun c_2 => ?_)
    · skip
      obtain ⟨w, hw, ew⟩ := gm_i8 (k := 3) c_2 (by decide) (by decide) (by decide)
      have ewc : v.toNatClampNeg = w := by rw [ew, nI_clamp (Nat.lt_trans hw (by decide))]
      refine lv_iload_n hx hb dX2_row_28 rfl (lv_at hl 2 rfl) ?_
      refine gh_vv (y := nI w) (ew) ?_
      rcases gx_3 hw with rfl | rfl | rfl
      · skip
        refine lv_lookup (x := nI 0) (off := 27) (tgt := 56) hx hb dX2_row_29 (by decide) (by decide) (by decide) ?_
        refine lv_aload_n hx hb dX2_row_56 rfl (lv_at hl 0 rfl) ?_
        refine va_get (D := G.1) (ci := 2) (v := .ref (a 0)) (C := RX2) (T := TX2) (N := 3) hx hb hts (fun w9 h9 => List.mem_cons_of_mem _ (List.mem_append_left _ (List.mem_append_left _ (List.mem_append_right _ h9)))) hown hK hP 0 rfl rfl 1 (by decide) (hts (.fieldLink RX2 21 "GlassHarp" "now" "LGlassHarp$Orchestra;") (List.mem_of_getElem? (i := 3) rfl)) (fun _ h9 => h9) rfl dX2_row_57 ?_
        refine va_getN (D := G.1) (ci := 0) (v := .ref (a 8)) (C := RX0) (T := TX0) (N := 15) hx hb hts (fun w9 h9 => List.mem_cons_of_mem _ (List.mem_append_left _ (List.mem_append_right _ h9))) hown hK hP 1 rfl rfl 8 (by decide) (va_Nw.use rfl (hE.2.2 (RX2, 106, "GlassHarp$Orchestra", "air", "[I", RX2) (List.mem_of_getElem? (i := 15) rfl))) (fun _ h9 => h9) rfl dX2_row_60 ?_
        refine lv_iload_n hx hb dX2_row_63 rfl (lv_at hl 1 rfl) ?_
        refine va_iald (f := o 8) hx hb hK hP 9 0 rfl rfl (gh_iw_in c_1) dX2_row_64 ?_
        refine W.widen (k := 1) (n := 6) (by omega) (by omega) ?_
        have hP9 := hP
        exact vx_ret (W.iret (v := o 8 y.toNatClampNeg) hx hb hr (fun t9 ht hW => ⟨⟨o 8 y.toNatClampNeg, (), rfl, ⟨by first | (simp only [gc_rw, c_1, c_2, ewc, ↓reduceIte, if_true, if_false]; done) | (simp only [gc_rw]; simp only [c_1, c_2, ewc, ↓reduceIte, if_true, if_false]; done) | (simp [gc_rw, c_1, c_2, ewc, ↓reduceIte, if_true, if_false]; done), by first | (simp only [gc_k2, c_1, c_2, ewc, ↓reduceIte, if_true, if_false]; done) | (simp only [gc_k2]; simp only [c_1, c_2, ewc, ↓reduceIte, if_true, if_false]; done) | (simp [gc_k2, c_1, c_2, ewc, ↓reduceIte, if_true, if_false]; done)⟩, gh_hp hP9 ht⟩, hS.F ht⟩) hS.2.2 dX2_row_65)
      · skip
        refine lv_lookup (x := nI 1) (off := 37) (tgt := 66) hx hb dX2_row_29 (by decide) (by decide) (by decide) ?_
        refine lv_aload_n hx hb dX2_row_66 rfl (lv_at hl 0 rfl) ?_
        refine va_get (D := G.1) (ci := 2) (v := .ref (a 0)) (C := RX2) (T := TX2) (N := 3) hx hb hts (fun w9 h9 => List.mem_cons_of_mem _ (List.mem_append_left _ (List.mem_append_left _ (List.mem_append_right _ h9)))) hown hK hP 0 rfl rfl 1 (by decide) (hts (.fieldLink RX2 21 "GlassHarp" "now" "LGlassHarp$Orchestra;") (List.mem_of_getElem? (i := 3) rfl)) (fun _ h9 => h9) rfl dX2_row_67 ?_
        refine va_getN (D := G.1) (ci := 0) (v := .ref (a 9)) (C := RX0) (T := TX0) (N := 15) hx hb hts (fun w9 h9 => List.mem_cons_of_mem _ (List.mem_append_left _ (List.mem_append_right _ h9))) hown hK hP 1 rfl rfl 9 (by decide) (va_Nw.use rfl (hE.2.2 (RX2, 84, "GlassHarp$Orchestra", "pumps", "[I", RX2) (List.mem_of_getElem? (i := 16) rfl))) (fun _ h9 => h9) rfl dX2_row_70 ?_
        refine lv_iload_n hx hb dX2_row_73 rfl (lv_at hl 1 rfl) ?_
        refine va_iald (f := o 9) hx hb hK hP 10 0 rfl rfl (gh_iw_in c_1) dX2_row_74 ?_
        refine W.widen (k := 1) (n := 6) (by omega) (by omega) ?_
        have hP9 := hP
        exact vx_ret (W.iret (v := o 9 y.toNatClampNeg) hx hb hr (fun t9 ht hW => ⟨⟨o 9 y.toNatClampNeg, (), rfl, ⟨by first | (simp only [gc_rw, c_1, c_2, ewc, ↓reduceIte, if_true, if_false]; done) | (simp only [gc_rw]; simp only [c_1, c_2, ewc, ↓reduceIte, if_true, if_false]; done) | (simp [gc_rw, c_1, c_2, ewc, ↓reduceIte, if_true, if_false]; done), by first | (simp only [gc_k2, c_1, c_2, ewc, ↓reduceIte, if_true, if_false]; done) | (simp only [gc_k2]; simp only [c_1, c_2, ewc, ↓reduceIte, if_true, if_false]; done) | (simp [gc_k2, c_1, c_2, ewc, ↓reduceIte, if_true, if_false]; done)⟩, gh_hp hP9 ht⟩, hS.F ht⟩) hS.2.2 dX2_row_75)
      · skip
        refine lv_lookup (x := nI 2) (off := 47) (tgt := 76) hx hb dX2_row_29 (by decide) (by decide) (by decide) ?_
        refine lv_aload_n hx hb dX2_row_76 rfl (lv_at hl 0 rfl) ?_
        refine va_get (D := G.1) (ci := 2) (v := .ref (a 0)) (C := RX2) (T := TX2) (N := 3) hx hb hts (fun w9 h9 => List.mem_cons_of_mem _ (List.mem_append_left _ (List.mem_append_left _ (List.mem_append_right _ h9)))) hown hK hP 0 rfl rfl 1 (by decide) (hts (.fieldLink RX2 21 "GlassHarp" "now" "LGlassHarp$Orchestra;") (List.mem_of_getElem? (i := 3) rfl)) (fun _ h9 => h9) rfl dX2_row_77 ?_
        refine lv_iload_n hx hb dX2_row_80 rfl (lv_at hl 1 rfl) ?_
        refine gh_ci (va_runVN (As := [.int y]) (rest := []) ⟨hx, hb, hml, hown, hts⟩ (c_X0_glassesInRow l G a (b 5) o n y (hn) (hn16)) ⟨va_cnB 1 hts gX2_row_X0_glassesInRow_n109 rfl rfl rfl (hE.2.1 (RX2, 109, yX0_glassesInRow, RX2) (List.mem_of_getElem? (i := 10) rfl)) (hts (.initialized RX0) (List.mem_of_getElem? (i := 9) rfl)) hdS_X0_glassesInRow ⟨Nat.le_of_ble_eq_true rfl, Nat.le_of_ble_eq_true rfl⟩, (hts (.instanceMethod yX0_glassesInRow) (List.mem_of_getElem? (i := 8) rfl)), (hts (.selects RX0 yX0_glassesInRow yX0_glassesInRow) (List.mem_of_getElem? (i := 10) rfl))⟩ (gh_rV hE (hP.sub (ws' := wO G a (b 5) o) [1, 2, 3, 4, 5, 6, 7, 8, 9, 10] rfl) (ci := 0) (q0 := 0) rfl rfl) rfl rfl hl.1 rfl (lv_room (Nat.le_of_ble_eq_true rfl)) dX2_row_81 ⟨Nat.le_of_ble_eq_true rfl, Nat.le_of_ble_eq_true rfl⟩) ?_
        refine W.widen (k := 1) (n := 6) (by omega) (by omega) ?_
        have hP9 := hP
        exact vx_ret (W.iret (v := gh_cr (o 1) y n) hx hb hr (fun t9 ht hW => ⟨⟨gh_cr (o 1) y n, (), rfl, ⟨by first | (simp only [gc_rw, c_1, c_2, ewc, ↓reduceIte, if_true, if_false]; done) | (simp only [gc_rw]; simp only [c_1, c_2, ewc, ↓reduceIte, if_true, if_false]; done) | (simp [gc_rw, c_1, c_2, ewc, ↓reduceIte, if_true, if_false]; done), by first | (simp only [gc_k2, c_1, c_2, ewc, ↓reduceIte, if_true, if_false]; done) | (simp only [gc_k2]; simp only [c_1, c_2, ewc, ↓reduceIte, if_true, if_false]; done) | (simp [gc_k2, c_1, c_2, ewc, ↓reduceIte, if_true, if_false]; done)⟩, gh_hp hP9 ht⟩, hS.F ht⟩) hS.2.2 dX2_row_84)
    · skip
      obtain ⟨sa, hsa⟩ := hV.2.1 (104, "row is not 0 to 3, or what is not 0 to 2") (List.mem_of_getElem? (i := 2) rfl)
      exact vx_throwS (A := A) (names := ["java/lang/RuntimeException", "java/lang/Exception"]) hx hb hfl hown gx_fit_O gx_fit_n (hts (.classLink RX2 54 "java/lang/IndexOutOfBoundsException") (List.mem_of_getElem? (i := 1) rfl)) (hts (.initialized "java/lang/IndexOutOfBoundsException") (List.mem_of_getElem? (i := 2) rfl)) hsa (vx_hat (fun w9 h9 => hts w9 ((fun w9 h9 => List.mem_cons_of_mem _ (List.mem_append_right _ h9)) w9 h9)) gx_bad_58 (vx_c (va_Nw.use rfl hV.1.2.2) (vx_c (va_Nw.use rfl hV.2.2.2.2.2.2.1) (vx_c (va_Nw.use rfl hV.2.2.2.2.2.2.2.1) (vx_c (va_Nw.use rfl hV.2.2.2.2.2.2.2.2) vx_n))))) gx_ot_58 hZ.1 hZ.2 hS (hl.1.trans hml.symm) dX2_row_18 dX2_row_21 dX2_row_22 dX2_row_24 dX2_row_27 (fun x9 h9 => (htab x9 h9).elim) (Nat.le_of_ble_eq_true rfl) (Nat.le_of_ble_eq_true rfl) (Nat.le_of_ble_eq_true rfl) (Nat.le_of_ble_eq_true rfl) hlocks (fun t9 ha9 h1 h2 => gx_x hP hS h1 h2 (⟨rfl, by first | (simp only [gc_k2, c_1, c_2, ↓reduceIte, if_true, if_false]; done) | (simp only [gc_k2]; simp only [c_1, c_2, ↓reduceIte, if_true, if_false]; done) | (simp [gc_k2, c_1, c_2, ↓reduceIte, if_true, if_false]; done)⟩)) hS.2.2 (Nat.le_of_ble_eq_true rfl) (Nat.le_of_ble_eq_true rfl)
set_option maxHeartbeats 4000000 in
set_option maxRecDepth 100000 in
theorem c_X2_setLength (l : Launch) (hfl : l.stackTraces = false) (G : gh_G) (sz : Nat) (h : Nat) (a : Nat → Nat) (b : Nat → Nat) (d : Nat → Nat) (z : gh_B) (y : Int32)  : vx_Met l yX2_setLength wsX2_setLength ({ frames := 6, cells := 1, slots := 6, locals := 90 } : Room) (gx_w G [.ref h, .int y] ((wH h (b 5) (a 0) (d 0)) ++ (wS G b z)) sz) (va_Qi (fun (r9 : Int32) (_ : Unit) => r9 = z 4 0 ∧ gc_k1 (gh_iw y 1 64) = 0) (fun _ t9 => va_P G.1 vwCl ((wH h (b 5) (a 0) (d 0)) ++ (wS G b (gh_st z 4 (fun _ => y)))) t9.heap) (va_A ((wH h (b 5) (a 0) (d 0)) ++ (wS G b z)) sz)) (vx_X (fun _ : Unit => True) (fun E9 _ t9 => ((E9 = gx_A ∧ gc_k1 (gh_iw y 1 64) = 1)) ∧ va_P G.1 vwCl ((wH h (b 5) (a 0) (d 0)) ++ (wS G b z)) t9.heap) (va_A ((wH h (b 5) (a 0) (d 0)) ++ (wS G b z)) sz)) 1 6 (va_A ((wH h (b 5) (a 0) (d 0)) ++ (wS G b z)) sz) := by
  refine vx_ofW (cc := cX2_setLength) (maxL := 3) (ret := (some .int)) (by decide) rfl ?_
  intro p e s m args below meth c s₁ B hml htab hv
  obtain ⟨rfl, hsz, hP, hE, hD0, hV, hZ⟩ := hv
  have hx := B.exec
  have hb := B.bytes
  have hr := B.returns
  have hts := atoms_spec (ws := wsX2_setLength) B.pre
  have hown : s.vm.findClass RX2 = some m.cls := findClass_of_methodNamed B.named
  have hlocks := B.notSynchronized
  have hK := hE.1
  subst hsz
  have hD := hD0.self (sz := s.heap.size)
  generalize hAe : va_A ((wH h (b 5) (a 0) (d 0)) ++ (wS G b z)) s.heap.size = A at hD hZ ⊢
  have hA : ∀ q : Nat, s.heap.size ≤ q → A q := fun q h => by rw [← hAe]; exact Or.inr h
  have hS : va_S A s.heap s.heap [] := va_S.rf
  have hl := lv_entry ([.ref h, .int y]) (n := 3) (Nat.le_of_ble_eq_true rfl)
  rw [lg_entry_eq]
  generalize (lg_sl ([.ref h, .int y]) ++ List.replicate (3 - (lg_sl ([.ref h, .int y])).length) Slot.unset).toArray = ls at hl ⊢
  have hl : lv_has ls 3 [(0, .ref h), (1, .int y)] := hl
  refine lv_iload_n hx hb dX2_setLength_0 rfl (lv_at hl 1 rfl) ?_
  refine lv_iconst (v := 1) hx hb dX2_setLength_1 (by decide) ?_
  refine lv_bipush (v := 64) hx hb dX2_setLength_2 (by decide) ?_
  refine gh_ci (va_runS (As := [.int y, .int 1, .int 64]) (rest := []) ⟨hx, hb, hml, hown, hts⟩ (c_X2_isWithin l G y 1 64) (va_cwS 3 hts gX2_setLength_X2_isWithin rfl rfl rfl hdS_X2_isWithin ⟨Nat.le_of_ble_eq_true rfl, Nat.le_of_ble_eq_true rfl⟩) (gh_rS hE (fun k q h => by simp at h)) rfl rfl hl.1 rfl (lv_room (Nat.le_of_ble_eq_true rfl)) dX2_setLength_4 ⟨Nat.le_of_ble_eq_true rfl, Nat.le_of_ble_eq_true rfl⟩) ?_
  refine lv_if_ne (tgt := 20) hx hb dX2_setLength_7 (by decide) (fun c_1 => ?_) (fun c_1 => ?_)
  · skip
    refine lv_aload_n hx hb dX2_setLength_20 rfl (lv_at hl 0 rfl) ?_
    refine va_get (D := G.1) (ci := 2) (v := .ref (b 5)) (C := RX2) (T := TX2) (N := 3) hx hb hts (fun w9 h9 => List.mem_cons_of_mem _ (List.mem_append_left _ (List.mem_append_left _ (List.mem_append_right _ h9)))) hown hK hP 0 rfl rfl 0 (by decide) (hts (.fieldLink RX2 10 "GlassHarp" "score" "LGlassHarp$Score;") (List.mem_of_getElem? (i := 3) rfl)) (fun _ h9 => h9) rfl dX2_setLength_21 ?_
    refine va_getN (D := G.1) (ci := 1) (v := .int (z 4 0)) (C := RX1) (T := TX1) (N := 5) hx hb hts (fun w9 h9 => List.mem_cons_of_mem _ (List.mem_append_left _ (List.mem_append_right _ h9))) hown hK hP 1 rfl rfl 4 (by decide) (va_Nw.use rfl (hE.2.2 (RX2, 114, "GlassHarp$Score", "length", "I", RX2) (List.mem_of_getElem? (i := 8) rfl))) (fun _ h9 => h9) rfl dX2_setLength_24 ?_
    refine lv_istore_n (lv' := [(2, .int (z 4 0)), (0, .ref h), (1, .int y)]) hx hb dX2_setLength_27 rfl hl (by decide) rfl (fun ls hl => ?_)
    refine lv_aload_n hx hb dX2_setLength_28 rfl (lv_at hl 1 rfl) ?_
    refine va_get (D := G.1) (ci := 2) (v := .ref (b 5)) (C := RX2) (T := TX2) (N := 3) hx hb hts (fun w9 h9 => List.mem_cons_of_mem _ (List.mem_append_left _ (List.mem_append_left _ (List.mem_append_right _ h9)))) hown hK hP 0 rfl rfl 0 (by decide) (hts (.fieldLink RX2 10 "GlassHarp" "score" "LGlassHarp$Score;") (List.mem_of_getElem? (i := 3) rfl)) (fun _ h9 => h9) rfl dX2_setLength_29 ?_
    refine lv_iload_n hx hb dX2_setLength_32 rfl (lv_at hl 2 rfl) ?_
    refine va_putN (D := G.1) (ci := 1) (v := .int y) (ty := .int) (C := RX1) (T := TX1) (N := 5) hx hb hts (fun w9 h9 => List.mem_cons_of_mem _ (List.mem_append_left _ (List.mem_append_right _ h9))) tyX1 tyX1_ok nmX1 hown hK hP hD hS 1 rfl rfl 4 (by decide) (va_Nw.use rfl (hE.2.2 (RX2, 114, "GlassHarp$Score", "length", "I", RX2) (List.mem_of_getElem? (i := 8) rfl))) (fun _ h9 => h9) rfl (tyX1_ok 4 (by decide)) rfl rfl (Nat.le_of_ble_eq_true rfl) dX2_setLength_33 (fun H locs hP hD hS => ?_)
    have hP : va_P G.1 vwCl ((wH h (b 5) (a 0) (d 0)) ++ (wS G b (gh_st z 4 (fun _ => y)))) H := hP
    have hD : va_D A ((wH h (b 5) (a 0) (d 0)) ++ (wS G b (gh_st z 4 (fun _ => y)))) := hD
    refine lv_iload_n hx hb dX2_setLength_36 rfl (lv_at hl 0 rfl) ?_
    refine W.widen (k := 1) (n := 6) (by omega) (by omega) ?_
    have hP9 := hP
    exact vx_ret (W.iret (v := z 4 0) hx hb hr (fun t9 ht hW => ⟨⟨z 4 0, (), rfl, ⟨rfl, by first | (simp only [gc_k1, c_1, ↓reduceIte, if_true, if_false]; done) | (simp only [gc_k1]; simp only [c_1, ↓reduceIte, if_true, if_false]; done) | (simp [gc_k1, c_1, ↓reduceIte, if_true, if_false]; done)⟩, gh_hp hP9 ht⟩, hS.F ht⟩) hS.2.2 dX2_setLength_37)
  · skip
    obtain ⟨sa, hsa⟩ := hV.2.1 (112, "length is not 1 to 64") (List.mem_of_getElem? (i := 13) rfl)
    exact vx_throwS (A := A) (names := ["java/lang/RuntimeException", "java/lang/Exception"]) hx hb hfl hown gx_fit_A gx_fit_n (hts (.classLink RX2 32 "java/lang/IllegalArgumentException") (List.mem_of_getElem? (i := 1) rfl)) (hts (.initialized "java/lang/IllegalArgumentException") (List.mem_of_getElem? (i := 2) rfl)) hsa (vx_hat (fun w9 h9 => hts w9 ((fun w9 h9 => List.mem_cons_of_mem _ (List.mem_append_right _ h9)) w9 h9)) gx_bad_36 (vx_c (va_Nw.use rfl hV.1.1) (vx_c (va_Nw.use rfl hV.2.2.2.2.2.2.1) (vx_c (va_Nw.use rfl hV.2.2.2.2.2.2.2.1) (vx_c (va_Nw.use rfl hV.2.2.2.2.2.2.2.2) vx_n))))) gx_ot_36 hZ.1 hZ.2 hS (hl.1.trans hml.symm) dX2_setLength_10 dX2_setLength_13 dX2_setLength_14 dX2_setLength_16 dX2_setLength_19 (fun x9 h9 => (htab x9 h9).elim) (Nat.le_of_ble_eq_true rfl) (Nat.le_of_ble_eq_true rfl) (Nat.le_of_ble_eq_true rfl) (Nat.le_of_ble_eq_true rfl) hlocks (fun t9 ha9 h1 h2 => gx_x hP hS h1 h2 (⟨rfl, by first | (simp only [gc_k1, c_1, ↓reduceIte, if_true, if_false]; done) | (simp only [gc_k1]; simp only [c_1, ↓reduceIte, if_true, if_false]; done) | (simp [gc_k1, c_1, ↓reduceIte, if_true, if_false]; done)⟩)) hS.2.2 (Nat.le_of_ble_eq_true rfl) (Nat.le_of_ble_eq_true rfl)
set_option maxHeartbeats 4000000 in
set_option maxRecDepth 100000 in
theorem c_X2_note (l : Launch) (hfl : l.stackTraces = false) (G : gh_G) (sz : Nat) (h : Nat) (a : Nat → Nat) (b : Nat → Nat) (d : Nat → Nat) (z : gh_B) (nn : Nat) (y : Int32) (u : Int32) (v : Int32) (hz : z 3 0 = nI nn) (hz32 : nn ≤ 32) : vx_Met l yX2_note wsX2_note ({ frames := 6, cells := 1, slots := 6, locals := 90 } : Room) (gx_w G [.ref h, .int y, .int u, .int v] ((wH h (b 5) (a 0) (d 0)) ++ (wS G b z)) sz) (va_Qi (fun (r9 : Int32) (_ : Unit) => r9 = nI (nn + 1) ∧ gc_note nn y u v = 0) (fun _ t9 => va_P G.1 vwCl ((wH h (b 5) (a 0) (d 0)) ++ (wS G b (gh_wr z nn y u v))) t9.heap) (va_A ((wH h (b 5) (a 0) (d 0)) ++ (wS G b z)) sz)) (vx_X (fun _ : Unit => True) (fun E9 _ t9 => ((E9 = gx_A ∧ gc_note nn y u v = 1) ∨ (E9 = gx_S ∧ gc_note nn y u v = 2)) ∧ va_P G.1 vwCl ((wH h (b 5) (a 0) (d 0)) ++ (wS G b z)) t9.heap) (va_A ((wH h (b 5) (a 0) (d 0)) ++ (wS G b z)) sz)) 1 6 (va_A ((wH h (b 5) (a 0) (d 0)) ++ (wS G b z)) sz) := by
  refine vx_ofW (cc := cX2_note) (maxL := 4) (ret := (some .int)) (by decide) rfl ?_
  intro p e s m args below meth c s₁ B hml htab hv
  obtain ⟨rfl, hsz, hP, hE, hD0, hV, hZ⟩ := hv
  have hx := B.exec
  have hb := B.bytes
  have hr := B.returns
  have hts := atoms_spec (ws := wsX2_note) B.pre
  have hown : s.vm.findClass RX2 = some m.cls := findClass_of_methodNamed B.named
  have hlocks := B.notSynchronized
  have hK := hE.1
  subst hsz
  have hD := hD0.self (sz := s.heap.size)
  generalize hAe : va_A ((wH h (b 5) (a 0) (d 0)) ++ (wS G b z)) s.heap.size = A at hD hZ ⊢
  have hA : ∀ q : Nat, s.heap.size ≤ q → A q := fun q h => by rw [← hAe]; exact Or.inr h
  have hS : va_S A s.heap s.heap [] := va_S.rf
  have hl := lv_entry ([.ref h, .int y, .int u, .int v]) (n := 4) (Nat.le_of_ble_eq_true rfl)
  rw [lg_entry_eq]
  generalize (lg_sl ([.ref h, .int y, .int u, .int v]) ++ List.replicate (4 - (lg_sl ([.ref h, .int y, .int u, .int v])).length) Slot.unset).toArray = ls at hl ⊢
  have hl : lv_has ls 4 [(0, .ref h), (1, .int y), (2, .int u), (3, .int v)] := hl
  refine lv_iload_n hx hb dX2_note_0 rfl (lv_at hl 1 rfl) ?_
  refine lv_iconst (v := 0) hx hb dX2_note_1 (by decide) ?_
  refine lv_bipush (v := 63) hx hb dX2_note_2 (by decide) ?_
  refine gh_ci (va_runS (As := [.int y, .int 0, .int 63]) (rest := []) ⟨hx, hb, hml, hown, hts⟩ (c_X2_isWithin l G y 0 63) (va_cwS 3 hts gX2_note_X2_isWithin rfl rfl rfl hdS_X2_isWithin ⟨Nat.le_of_ble_eq_true rfl, Nat.le_of_ble_eq_true rfl⟩) (gh_rS hE (fun k q h => by simp at h)) rfl rfl hl.1 rfl (lv_room (Nat.le_of_ble_eq_true rfl)) dX2_note_4 ⟨Nat.le_of_ble_eq_true rfl, Nat.le_of_ble_eq_true rfl⟩) ?_
  refine lv_if_eq (tgt := 20) hx hb dX2_note_7 (by decide) (fun c_1 => ?_) (fun c_1 => ?_)
  · skip
    obtain ⟨sa, hsa⟩ := hV.2.1 (118, "beat is not 0 to 63, or tone is not 0 to 120") (List.mem_of_getElem? (i := 14) rfl)
    exact vx_throwS (A := A) (names := ["java/lang/RuntimeException", "java/lang/Exception"]) hx hb hfl hown gx_fit_A gx_fit_n (hts (.classLink RX2 32 "java/lang/IllegalArgumentException") (List.mem_of_getElem? (i := 1) rfl)) (hts (.initialized "java/lang/IllegalArgumentException") (List.mem_of_getElem? (i := 2) rfl)) hsa (vx_hat (fun w9 h9 => hts w9 ((fun w9 h9 => List.mem_cons_of_mem _ (List.mem_append_left _ (List.mem_append_right _ h9))) w9 h9)) gx_bad_36 (vx_c (va_Nw.use rfl hV.1.1) (vx_c (va_Nw.use rfl hV.2.2.2.2.2.2.1) (vx_c (va_Nw.use rfl hV.2.2.2.2.2.2.2.1) (vx_c (va_Nw.use rfl hV.2.2.2.2.2.2.2.2) vx_n))))) gx_ot_36 hZ.1 hZ.2 hS (hl.1.trans hml.symm) dX2_note_20 dX2_note_23 dX2_note_24 dX2_note_26 dX2_note_29 (fun x9 h9 => (htab x9 h9).elim) (Nat.le_of_ble_eq_true rfl) (Nat.le_of_ble_eq_true rfl) (Nat.le_of_ble_eq_true rfl) (Nat.le_of_ble_eq_true rfl) hlocks (fun t9 ha9 h1 h2 => gx_x hP hS h1 h2 (Or.inl ⟨rfl, by first | (simp only [gc_note, c_1, ↓reduceIte, if_true, if_false]; done) | (simp only [gc_note]; simp only [c_1, ↓reduceIte, if_true, if_false]; done) | (simp [gc_note, c_1, ↓reduceIte, if_true, if_false]; done)⟩)) hS.2.2 (Nat.le_of_ble_eq_true rfl) (Nat.le_of_ble_eq_true rfl)
  · skip
    refine lv_iload_n hx hb dX2_note_10 rfl (lv_at hl 2 rfl) ?_
    refine lv_iconst (v := 0) hx hb dX2_note_11 (by decide) ?_
    refine lv_bipush (v := 120) hx hb dX2_note_12 (by decide) ?_
    refine gh_ci (va_runS (As := [.int u, .int 0, .int 120]) (rest := []) ⟨hx, hb, hml, hown, hts⟩ (c_X2_isWithin l G u 0 120) (va_cwS 3 hts gX2_note_X2_isWithin rfl rfl rfl hdS_X2_isWithin ⟨Nat.le_of_ble_eq_true rfl, Nat.le_of_ble_eq_true rfl⟩) (gh_rS hE (fun k q h => by simp at h)) rfl rfl hl.1 rfl (lv_room (Nat.le_of_ble_eq_true rfl)) dX2_note_14 ⟨Nat.le_of_ble_eq_true rfl, Nat.le_of_ble_eq_true rfl⟩) ?_
    refine lv_if_ne (tgt := 30) hx hb dX2_note_17 (by decide) (fun c_2 => ?_) (fun c_2 => ?_)
    · skip
      refine lv_iload_n hx hb dX2_note_30 rfl (lv_at hl 3 rfl) ?_
      refine lv_iconst (v := 1) hx hb dX2_note_31 (by decide) ?_
      refine lv_bipush (v := 9) hx hb dX2_note_32 (by decide) ?_
      refine gh_ci (va_runS (As := [.int v, .int 1, .int 9]) (rest := []) ⟨hx, hb, hml, hown, hts⟩ (c_X2_isWithin l G v 1 9) (va_cwS 3 hts gX2_note_X2_isWithin rfl rfl rfl hdS_X2_isWithin ⟨Nat.le_of_ble_eq_true rfl, Nat.le_of_ble_eq_true rfl⟩) (gh_rS hE (fun k q h => by simp at h)) rfl rfl hl.1 rfl (lv_room (Nat.le_of_ble_eq_true rfl)) dX2_note_34 ⟨Nat.le_of_ble_eq_true rfl, Nat.le_of_ble_eq_true rfl⟩) ?_
      refine lv_if_ne (tgt := 50) hx hb dX2_note_37 (by decide) (fun c_3 => ?_) (fun c_3 => ?_)
      · skip
        refine lv_aload_n hx hb dX2_note_50 rfl (lv_at hl 0 rfl) ?_
        refine va_get (D := G.1) (ci := 2) (v := .ref (b 5)) (C := RX2) (T := TX2) (N := 3) hx hb hts (fun w9 h9 => List.mem_cons_of_mem _ (List.mem_append_left _ (List.mem_append_left _ (List.mem_append_left _ (List.mem_append_right _ h9))))) hown hK hP 0 rfl rfl 0 (by decide) (hts (.fieldLink RX2 10 "GlassHarp" "score" "LGlassHarp$Score;") (List.mem_of_getElem? (i := 5) rfl)) (fun _ h9 => h9) rfl dX2_note_51 ?_
        refine lv_iload_n hx hb dX2_note_54 rfl (lv_at hl 1 rfl) ?_
        refine lv_iload_n hx hb dX2_note_55 rfl (lv_at hl 2 rfl) ?_
        refine lv_iload_n hx hb dX2_note_56 rfl (lv_at hl 3 rfl) ?_
        refine gh_cw (wr := wH h (b 5) (a 0) (d 0)) (ws' := (wH h (b 5) (a 0) (d 0)) ++ (wS G b (gh_wr z nn y u v))) (va_runVN (As := [.int y, .int u, .int v]) (rest := []) ⟨hx, hb, hml, hown, hts⟩ (c_X1_write l G s.heap.size b z nn y u v (hz) (hz32)) ⟨va_cnB 3 hts gX2_note_X1_write_n122 rfl rfl rfl (hE.2.1 (RX2, 122, yX1_write, RX2) (List.mem_of_getElem? (i := 14) rfl)) (hts (.initialized RX1) (List.mem_of_getElem? (i := 11) rfl)) hdS_X1_write ⟨Nat.le_of_ble_eq_true rfl, Nat.le_of_ble_eq_true rfl⟩, (hts (.instanceMethod yX1_write) (List.mem_of_getElem? (i := 10) rfl)), (hts (.selects RX1 yX1_write yX1_write) (List.mem_of_getElem? (i := 12) rfl))⟩ (gh_wV hE (hP.sub (ws' := wS G b z) [1, 2, 3, 4] rfl) (hD.sub (ws' := wS G b z) [1, 2, 3, 4] (by decide) rfl) (ci := 1) (q0 := 0) rfl rfl) rfl rfl hl.1 rfl (lv_room (Nat.le_of_ble_eq_true rfl)) dX2_note_57 ⟨Nat.le_of_ble_eq_true rfl, Nat.le_of_ble_eq_true rfl⟩) hP hD hS hA [1, 2, 3, 4] [0] [0, 1, 2, 3, 4] rfl rfl (by decide) (by decide) (by decide) [b 5, b 0, b 1, b 2] [h, b 5, b 0, b 1, b 2] rfl rfl rfl rfl rfl (fun H locs hP hD hS => ?_)
        refine lv_if_ne (tgt := 73) hx hb dX2_note_60 (by decide) (fun c_4 => ?_) (fun c_4 => ?_)
        · skip
          have h32 : nI nn < 32 := gx_wr c_4
          refine lv_aload_n hx hb dX2_note_73 rfl (lv_at hl 0 rfl) ?_
          refine va_get (D := G.1) (ci := 2) (v := .ref (b 5)) (C := RX2) (T := TX2) (N := 3) hx hb hts (fun w9 h9 => List.mem_cons_of_mem _ (List.mem_append_left _ (List.mem_append_left _ (List.mem_append_left _ (List.mem_append_right _ h9))))) hown hK hP 0 rfl rfl 0 (by decide) (hts (.fieldLink RX2 10 "GlassHarp" "score" "LGlassHarp$Score;") (List.mem_of_getElem? (i := 5) rfl)) (fun _ h9 => h9) rfl dX2_note_74 ?_
          refine va_getN (D := G.1) (ci := 1) (v := .int ((gh_wr z nn y u v) 3 0)) (C := RX1) (T := TX1) (N := 5) hx hb hts (fun w9 h9 => List.mem_cons_of_mem _ (List.mem_append_left _ (List.mem_append_left _ (List.mem_append_right _ h9)))) hown hK hP 1 rfl rfl 3 (by decide) (va_Nw.use rfl (hE.2.2 (RX2, 127, "GlassHarp$Score", "notes", "I", RX2) (List.mem_of_getElem? (i := 6) rfl))) (fun _ h9 => h9) rfl dX2_note_77 ?_
          refine gh_vv (y := nI (nn + 1)) (by rw [gh_wr, if_pos h32]; rfl) ?_
          refine W.widen (k := 1) (n := 6) (by omega) (by omega) ?_
          have hP9 := hP
          exact vx_ret (W.iret (v := nI (nn + 1)) hx hb hr (fun t9 ht hW => ⟨⟨nI (nn + 1), (), rfl, ⟨rfl, by first | (simp only [gc_note, c_1, c_2, c_3, c_4, h32, ↓reduceIte, if_true, if_false]; done) | (simp only [gc_note]; simp only [c_1, c_2, c_3, c_4, h32, ↓reduceIte, if_true, if_false]; done) | (simp [gc_note, c_1, c_2, c_3, c_4, h32, ↓reduceIte, if_true, if_false]; done)⟩, gh_hp hP9 ht⟩, hS.F ht⟩) hS.2.2 dX2_note_80)
        · skip
          have h32 : ¬ nI nn < 32 := gx_wr2 c_4
          have e9 : gh_wr z nn y u v = z := by rw [gh_wr, if_neg h32]
          rw [e9] at hP
          obtain ⟨sa, hsa⟩ := hV.2.1 (125, "there are 32 notes") (List.mem_of_getElem? (i := 16) rfl)
          exact vx_throwS (A := A) (names := ["java/lang/RuntimeException", "java/lang/Exception"]) hx hb hfl hown gx_fit_S gx_fit_n (hts (.classLink RX2 45 "java/lang/IllegalStateException") (List.mem_of_getElem? (i := 3) rfl)) (hts (.initialized "java/lang/IllegalStateException") (List.mem_of_getElem? (i := 4) rfl)) hsa (vx_hat (fun w9 h9 => hts w9 ((fun w9 h9 => List.mem_cons_of_mem _ (List.mem_append_right _ h9)) w9 h9)) gx_bad_49 (vx_c (va_Nw.use rfl hV.1.2.1) (vx_c (va_Nw.use rfl hV.2.2.2.2.2.2.1) (vx_c (va_Nw.use rfl hV.2.2.2.2.2.2.2.1) (vx_c (va_Nw.use rfl hV.2.2.2.2.2.2.2.2) vx_n))))) gx_ot_49 hZ.1 hZ.2 hS (hl.1.trans hml.symm) dX2_note_63 dX2_note_66 dX2_note_67 dX2_note_69 dX2_note_72 (fun x9 h9 => (htab x9 h9).elim) (Nat.le_of_ble_eq_true rfl) (Nat.le_of_ble_eq_true rfl) (Nat.le_of_ble_eq_true rfl) (Nat.le_of_ble_eq_true rfl) hlocks (fun t9 ha9 h1 h2 => gx_x hP hS h1 h2 (Or.inr (⟨rfl, by first | (simp only [gc_note, c_1, c_2, c_3, c_4, h32, ↓reduceIte, if_true, if_false]; done) | (simp only [gc_note]; simp only [c_1, c_2, c_3, c_4, h32, ↓reduceIte, if_true, if_false]; done) | (simp [gc_note, c_1, c_2, c_3, c_4, h32, ↓reduceIte, if_true, if_false]; done)⟩))) hS.2.2 (Nat.le_of_ble_eq_true rfl) (Nat.le_of_ble_eq_true rfl)
      · skip
        obtain ⟨sa, hsa⟩ := hV.2.1 (120, "force is not 1 to 9") (List.mem_of_getElem? (i := 15) rfl)
        exact vx_throwS (A := A) (names := ["java/lang/RuntimeException", "java/lang/Exception"]) hx hb hfl hown gx_fit_A gx_fit_n (hts (.classLink RX2 32 "java/lang/IllegalArgumentException") (List.mem_of_getElem? (i := 1) rfl)) (hts (.initialized "java/lang/IllegalArgumentException") (List.mem_of_getElem? (i := 2) rfl)) hsa (vx_hat (fun w9 h9 => hts w9 ((fun w9 h9 => List.mem_cons_of_mem _ (List.mem_append_left _ (List.mem_append_right _ h9))) w9 h9)) gx_bad_36 (vx_c (va_Nw.use rfl hV.1.1) (vx_c (va_Nw.use rfl hV.2.2.2.2.2.2.1) (vx_c (va_Nw.use rfl hV.2.2.2.2.2.2.2.1) (vx_c (va_Nw.use rfl hV.2.2.2.2.2.2.2.2) vx_n))))) gx_ot_36 hZ.1 hZ.2 hS (hl.1.trans hml.symm) dX2_note_40 dX2_note_43 dX2_note_44 dX2_note_46 dX2_note_49 (fun x9 h9 => (htab x9 h9).elim) (Nat.le_of_ble_eq_true rfl) (Nat.le_of_ble_eq_true rfl) (Nat.le_of_ble_eq_true rfl) (Nat.le_of_ble_eq_true rfl) hlocks (fun t9 ha9 h1 h2 => gx_x hP hS h1 h2 (Or.inl ⟨rfl, by first | (simp only [gc_note, c_1, c_2, c_3, ↓reduceIte, if_true, if_false]; done) | (simp only [gc_note]; simp only [c_1, c_2, c_3, ↓reduceIte, if_true, if_false]; done) | (simp [gc_note, c_1, c_2, c_3, ↓reduceIte, if_true, if_false]; done)⟩)) hS.2.2 (Nat.le_of_ble_eq_true rfl) (Nat.le_of_ble_eq_true rfl)
    · skip
      obtain ⟨sa, hsa⟩ := hV.2.1 (118, "beat is not 0 to 63, or tone is not 0 to 120") (List.mem_of_getElem? (i := 14) rfl)
      exact vx_throwS (A := A) (names := ["java/lang/RuntimeException", "java/lang/Exception"]) hx hb hfl hown gx_fit_A gx_fit_n (hts (.classLink RX2 32 "java/lang/IllegalArgumentException") (List.mem_of_getElem? (i := 1) rfl)) (hts (.initialized "java/lang/IllegalArgumentException") (List.mem_of_getElem? (i := 2) rfl)) hsa (vx_hat (fun w9 h9 => hts w9 ((fun w9 h9 => List.mem_cons_of_mem _ (List.mem_append_left _ (List.mem_append_right _ h9))) w9 h9)) gx_bad_36 (vx_c (va_Nw.use rfl hV.1.1) (vx_c (va_Nw.use rfl hV.2.2.2.2.2.2.1) (vx_c (va_Nw.use rfl hV.2.2.2.2.2.2.2.1) (vx_c (va_Nw.use rfl hV.2.2.2.2.2.2.2.2) vx_n))))) gx_ot_36 hZ.1 hZ.2 hS (hl.1.trans hml.symm) dX2_note_20 dX2_note_23 dX2_note_24 dX2_note_26 dX2_note_29 (fun x9 h9 => (htab x9 h9).elim) (Nat.le_of_ble_eq_true rfl) (Nat.le_of_ble_eq_true rfl) (Nat.le_of_ble_eq_true rfl) (Nat.le_of_ble_eq_true rfl) hlocks (fun t9 ha9 h1 h2 => gx_x hP hS h1 h2 (Or.inl ⟨rfl, by first | (simp only [gc_note, c_1, c_2, ↓reduceIte, if_true, if_false]; done) | (simp only [gc_note]; simp only [c_1, c_2, ↓reduceIte, if_true, if_false]; done) | (simp [gc_note, c_1, c_2, ↓reduceIte, if_true, if_false]; done)⟩)) hS.2.2 (Nat.le_of_ble_eq_true rfl) (Nat.le_of_ble_eq_true rfl)
set_option maxHeartbeats 4000000 in
set_option maxRecDepth 100000 in
theorem c_X2_strike (l : Launch) (hfl : l.stackTraces = false) (G : gh_G) (sz : Nat) (h : Nat) (a : Nat → Nat) (b : Nat → Nat) (d : Nat → Nat) (z : gh_B) (nn : Nat) (y : Int32) (hz : z 3 0 = nI nn) (hz32 : nn ≤ 32) : vx_Met l yX2_strike wsX2_strike ({ frames := 6, cells := 1, slots := 6, locals := 90 } : Room) (gx_w G [.ref h, .int y] ((wH h (b 5) (a 0) (d 0)) ++ (wS G b z)) sz) (va_Qi (fun (r9 : Int32) (_ : Unit) => r9 = z 1 y.toNatClampNeg ∧ gc_k1 (gh_rg y (z 3 0)) = 0) (fun _ t9 => va_P G.1 vwCl ((wH h (b 5) (a 0) (d 0)) ++ (wS G b (gh_st (gh_sh z y.toNatClampNeg (nn - 1)) 3 (fun _ => nI (nn - 1))))) t9.heap) (va_A ((wH h (b 5) (a 0) (d 0)) ++ (wS G b z)) sz)) (vx_X (fun _ : Unit => True) (fun E9 _ t9 => ((E9 = gx_O ∧ gc_k1 (gh_rg y (z 3 0)) = 1)) ∧ va_P G.1 vwCl ((wH h (b 5) (a 0) (d 0)) ++ (wS G b z)) t9.heap) (va_A ((wH h (b 5) (a 0) (d 0)) ++ (wS G b z)) sz)) 1 6 (va_A ((wH h (b 5) (a 0) (d 0)) ++ (wS G b z)) sz) := by
  refine vx_ofW (cc := cX2_strike) (maxL := 3) (ret := (some .int)) (by decide) rfl ?_
  intro p e s m args below meth c s₁ B hml htab hv
  obtain ⟨rfl, hsz, hP, hE, hD0, hV, hZ⟩ := hv
  have hx := B.exec
  have hb := B.bytes
  have hr := B.returns
  have hts := atoms_spec (ws := wsX2_strike) B.pre
  have hown : s.vm.findClass RX2 = some m.cls := findClass_of_methodNamed B.named
  have hlocks := B.notSynchronized
  have hK := hE.1
  subst hsz
  have hD := hD0.self (sz := s.heap.size)
  generalize hAe : va_A ((wH h (b 5) (a 0) (d 0)) ++ (wS G b z)) s.heap.size = A at hD hZ ⊢
  have hA : ∀ q : Nat, s.heap.size ≤ q → A q := fun q h => by rw [← hAe]; exact Or.inr h
  have hS : va_S A s.heap s.heap [] := va_S.rf
  have hl := lv_entry ([.ref h, .int y]) (n := 3) (Nat.le_of_ble_eq_true rfl)
  rw [lg_entry_eq]
  generalize (lg_sl ([.ref h, .int y]) ++ List.replicate (3 - (lg_sl ([.ref h, .int y])).length) Slot.unset).toArray = ls at hl ⊢
  have hl : lv_has ls 3 [(0, .ref h), (1, .int y)] := hl
  refine lv_aload_n hx hb dX2_strike_0 rfl (lv_at hl 0 rfl) ?_
  refine va_get (D := G.1) (ci := 2) (v := .ref (b 5)) (C := RX2) (T := TX2) (N := 3) hx hb hts (fun w9 h9 => List.mem_cons_of_mem _ (List.mem_append_left _ (List.mem_append_left _ (List.mem_append_right _ h9)))) hown hK hP 0 rfl rfl 0 (by decide) (hts (.fieldLink RX2 10 "GlassHarp" "score" "LGlassHarp$Score;") (List.mem_of_getElem? (i := 3) rfl)) (fun _ h9 => h9) rfl dX2_strike_1 ?_
  refine lv_iload_n hx hb dX2_strike_4 rfl (lv_at hl 1 rfl) ?_
  refine gh_ci (va_runVN (As := [.int y]) (rest := []) ⟨hx, hb, hml, hown, hts⟩ (c_X1_hasNote l G b z y) ⟨va_cnB 1 hts gX2_strike_X1_hasNote_n130 rfl rfl rfl (hE.2.1 (RX2, 130, yX1_hasNote, RX2) (List.mem_of_getElem? (i := 11) rfl)) (hts (.initialized RX1) (List.mem_of_getElem? (i := 5) rfl)) hdS_X1_hasNote ⟨Nat.le_of_ble_eq_true rfl, Nat.le_of_ble_eq_true rfl⟩, (hts (.instanceMethod yX1_hasNote) (List.mem_of_getElem? (i := 4) rfl)), (hts (.selects RX1 yX1_hasNote yX1_hasNote) (List.mem_of_getElem? (i := 6) rfl))⟩ (gh_rV hE (hP.sub (ws' := wS G b z) [1, 2, 3, 4] rfl) (ci := 1) (q0 := 0) rfl rfl) rfl rfl hl.1 rfl (lv_room (Nat.le_of_ble_eq_true rfl)) dX2_strike_5 ⟨Nat.le_of_ble_eq_true rfl, Nat.le_of_ble_eq_true rfl⟩) ?_
  refine lv_if_ne (tgt := 21) hx hb dX2_strike_8 (by decide) (fun c_1 => ?_) (fun c_1 => ?_)
  · skip
    obtain ⟨k, hk, ek⟩ := gh_rg_k c_1 hz (Nat.lt_of_le_of_lt hz32 (by decide))
    have ekc : y.toNatClampNeg = k := by rw [ek, nI_clamp (Nat.lt_trans hk (Nat.lt_of_le_of_lt hz32 (by decide)))]
    refine lv_aload_n hx hb dX2_strike_21 rfl (lv_at hl 0 rfl) ?_
    refine va_get (D := G.1) (ci := 2) (v := .ref (b 5)) (C := RX2) (T := TX2) (N := 3) hx hb hts (fun w9 h9 => List.mem_cons_of_mem _ (List.mem_append_left _ (List.mem_append_left _ (List.mem_append_right _ h9)))) hown hK hP 0 rfl rfl 0 (by decide) (hts (.fieldLink RX2 10 "GlassHarp" "score" "LGlassHarp$Score;") (List.mem_of_getElem? (i := 3) rfl)) (fun _ h9 => h9) rfl dX2_strike_22 ?_
    refine va_getN (D := G.1) (ci := 1) (v := .ref (b 1)) (C := RX1) (T := TX1) (N := 5) hx hb hts (fun w9 h9 => List.mem_cons_of_mem _ (List.mem_append_left _ (List.mem_append_right _ h9))) hown hK hP 1 rfl rfl 1 (by decide) (va_Nw.use rfl (hE.2.2 (RX2, 135, "GlassHarp$Score", "tones", "[I", RX2) (List.mem_of_getElem? (i := 2) rfl))) (fun _ h9 => h9) rfl dX2_strike_25 ?_
    refine lv_iload_n hx hb dX2_strike_28 rfl (lv_at hl 1 rfl) ?_
    refine gh_vv (y := nI k) (ek) ?_
    refine gh_ia (f := z 1) hx hb hK hP 3 0 rfl rfl k (rfl) (by omega) (by decide) dX2_strike_29 ?_
    refine lv_istore_n (lv' := [(2, .int (z 1 k)), (0, .ref h), (1, .int y)]) hx hb dX2_strike_30 rfl hl (by decide) rfl (fun ls hl => ?_)
    refine lv_aload_n hx hb dX2_strike_31 rfl (lv_at hl 1 rfl) ?_
    refine va_get (D := G.1) (ci := 2) (v := .ref (b 5)) (C := RX2) (T := TX2) (N := 3) hx hb hts (fun w9 h9 => List.mem_cons_of_mem _ (List.mem_append_left _ (List.mem_append_left _ (List.mem_append_right _ h9)))) hown hK hP 0 rfl rfl 0 (by decide) (hts (.fieldLink RX2 10 "GlassHarp" "score" "LGlassHarp$Score;") (List.mem_of_getElem? (i := 3) rfl)) (fun _ h9 => h9) rfl dX2_strike_32 ?_
    refine lv_iload_n hx hb dX2_strike_35 rfl (lv_at hl 2 rfl) ?_
    refine gh_vv (y := nI k) (ek) ?_
    refine gh_cv (wr := wH h (b 5) (a 0) (d 0)) (ws' := (wH h (b 5) (a 0) (d 0)) ++ (wS G b (gh_st (gh_sh z k (nn - 1)) 3 (fun _ => nI (nn - 1))))) (va_runVN (As := [.int (nI k)]) (rest := []) ⟨hx, hb, hml, hown, hts⟩ (c_X1_takeOut l G s.heap.size b z nn k (hz) (hz32) (hk)) ⟨va_cnB 1 hts gX2_strike_X1_takeOut_n138 rfl rfl rfl (hE.2.1 (RX2, 138, yX1_takeOut, RX2) (List.mem_of_getElem? (i := 15) rfl)) (hts (.initialized RX1) (List.mem_of_getElem? (i := 5) rfl)) hdS_X1_takeOut ⟨Nat.le_of_ble_eq_true rfl, Nat.le_of_ble_eq_true rfl⟩, (hts (.instanceMethod yX1_takeOut) (List.mem_of_getElem? (i := 9) rfl)), (hts (.selects RX1 yX1_takeOut yX1_takeOut) (List.mem_of_getElem? (i := 10) rfl))⟩ (gh_wV hE (hP.sub (ws' := wS G b z) [1, 2, 3, 4] rfl) (hD.sub (ws' := wS G b z) [1, 2, 3, 4] (by decide) rfl) (ci := 1) (q0 := 0) rfl rfl) rfl rfl hl.1 rfl (lv_room (Nat.le_of_ble_eq_true rfl)) dX2_strike_36 ⟨Nat.le_of_ble_eq_true rfl, Nat.le_of_ble_eq_true rfl⟩) hP hD hS hA [1, 2, 3, 4] [0] [0, 1, 2, 3, 4] rfl rfl (by decide) (by decide) (by decide) [b 5, b 0, b 1, b 2] [h, b 5, b 0, b 1, b 2] rfl rfl rfl rfl rfl (fun H locs hP hD hS => ?_)
    refine lv_iload_n hx hb dX2_strike_39 rfl (lv_at hl 0 rfl) ?_
    refine W.widen (k := 1) (n := 6) (by omega) (by omega) ?_
    have hP9 : va_P G.1 vwCl ((wH h (b 5) (a 0) (d 0)) ++ (wS G b (gh_st (gh_sh z y.toNatClampNeg (nn - 1)) 3 (fun _ => nI (nn - 1))))) H := by
      have e9 : gh_st (gh_sh z k (nn - 1)) 3 (fun _ => nI (nn - 1)) = gh_st (gh_sh z y.toNatClampNeg (nn - 1)) 3 (fun _ => nI (nn - 1)) := by first | (simp only [c_1, ekc, ↓reduceIte, if_true, if_false]; done) | (simp only [c_1, ekc, ↓reduceIte, if_true, if_false]; rfl) | (simp [c_1, ekc, ↓reduceIte, if_true, if_false]; done)
      rw [← e9]
      exact hP
    exact vx_ret (W.iret (v := z 1 k) hx hb hr (fun t9 ht hW => ⟨⟨z 1 k, (), rfl, ⟨by first | (simp only [c_1, ekc, ↓reduceIte, if_true, if_false]; done) | (simp only [c_1, ekc, ↓reduceIte, if_true, if_false]; rfl) | (simp [c_1, ekc, ↓reduceIte, if_true, if_false]; done), by first | (simp only [gc_k1, c_1, ekc, ↓reduceIte, if_true, if_false]; done) | (simp only [gc_k1]; simp only [c_1, ekc, ↓reduceIte, if_true, if_false]; done) | (simp [gc_k1, c_1, ekc, ↓reduceIte, if_true, if_false]; done)⟩, gh_hp hP9 ht⟩, hS.F ht⟩) hS.2.2 dX2_strike_40)
  · skip
    obtain ⟨sa, hsa⟩ := hV.2.1 (133, "no such place") (List.mem_of_getElem? (i := 17) rfl)
    exact vx_throwS (A := A) (names := ["java/lang/RuntimeException", "java/lang/Exception"]) hx hb hfl hown gx_fit_O gx_fit_n (hts (.classLink RX2 54 "java/lang/IndexOutOfBoundsException") (List.mem_of_getElem? (i := 1) rfl)) (hts (.initialized "java/lang/IndexOutOfBoundsException") (List.mem_of_getElem? (i := 2) rfl)) hsa (vx_hat (fun w9 h9 => hts w9 ((fun w9 h9 => List.mem_cons_of_mem _ (List.mem_append_right _ h9)) w9 h9)) gx_bad_58 (vx_c (va_Nw.use rfl hV.1.2.2) (vx_c (va_Nw.use rfl hV.2.2.2.2.2.2.1) (vx_c (va_Nw.use rfl hV.2.2.2.2.2.2.2.1) (vx_c (va_Nw.use rfl hV.2.2.2.2.2.2.2.2) vx_n))))) gx_ot_58 hZ.1 hZ.2 hS (hl.1.trans hml.symm) dX2_strike_11 dX2_strike_14 dX2_strike_15 dX2_strike_17 dX2_strike_20 (fun x9 h9 => (htab x9 h9).elim) (Nat.le_of_ble_eq_true rfl) (Nat.le_of_ble_eq_true rfl) (Nat.le_of_ble_eq_true rfl) (Nat.le_of_ble_eq_true rfl) hlocks (fun t9 ha9 h1 h2 => gx_x hP hS h1 h2 (⟨rfl, by first | (simp only [gc_k1, c_1, ↓reduceIte, if_true, if_false]; done) | (simp only [gc_k1]; simp only [c_1, ↓reduceIte, if_true, if_false]; done) | (simp [gc_k1, c_1, ↓reduceIte, if_true, if_false]; done)⟩)) hS.2.2 (Nat.le_of_ble_eq_true rfl) (Nat.le_of_ble_eq_true rfl)
set_option maxHeartbeats 4000000 in
set_option maxRecDepth 100000 in
theorem c_X2_written (l : Launch) (hfl : l.stackTraces = false) (G : gh_G) (sz : Nat) (h : Nat) (a : Nat → Nat) (b : Nat → Nat) (d : Nat → Nat) (z : gh_B) (nn : Nat) (y : Int32) (v : Int32) (hz : z 3 0 = nI nn) (hz32 : nn ≤ 32) : vx_Met l yX2_written wsX2_written ({ frames := 6, cells := 1, slots := 6, locals := 90 } : Room) (gx_w G [.ref h, .int y, .int v] ((wH h (b 5) (a 0) (d 0)) ++ (wS G b z)) sz) (va_Qi (fun (r9 : Int32) (_ : Unit) => r9 = gc_wr z y.toNatClampNeg v.toNatClampNeg ∧ gc_k2 (gh_rg y (z 3 0)) (gh_iw v 0 2) = 0) (fun _ t9 => va_P G.1 vwCl ((wH h (b 5) (a 0) (d 0)) ++ (wS G b z)) t9.heap) (va_A ((wH h (b 5) (a 0) (d 0)) ++ (wS G b z)) sz)) (vx_X (fun _ : Unit => True) (fun E9 _ t9 => ((E9 = gx_O ∧ gc_k2 (gh_rg y (z 3 0)) (gh_iw v 0 2) = 1)) ∧ va_P G.1 vwCl ((wH h (b 5) (a 0) (d 0)) ++ (wS G b z)) t9.heap) (va_A ((wH h (b 5) (a 0) (d 0)) ++ (wS G b z)) sz)) 1 6 (va_A ((wH h (b 5) (a 0) (d 0)) ++ (wS G b z)) sz) := by
  refine vx_ofW (cc := cX2_written) (maxL := 3) (ret := (some .int)) (by decide) rfl ?_
  intro p e s m args below meth c s₁ B hml htab hv
  obtain ⟨rfl, hsz, hP, hE, hD0, hV, hZ⟩ := hv
  have hx := B.exec
  have hb := B.bytes
  have hr := B.returns
  have hts := atoms_spec (ws := wsX2_written) B.pre
  have hown : s.vm.findClass RX2 = some m.cls := findClass_of_methodNamed B.named
  have hlocks := B.notSynchronized
  have hK := hE.1
  subst hsz
  have hD := hD0.self (sz := s.heap.size)
  generalize hAe : va_A ((wH h (b 5) (a 0) (d 0)) ++ (wS G b z)) s.heap.size = A at hD hZ ⊢
  have hA : ∀ q : Nat, s.heap.size ≤ q → A q := fun q h => by rw [← hAe]; exact Or.inr h
  have hS : va_S A s.heap s.heap [] := va_S.rf
  have hl := lv_entry ([.ref h, .int y, .int v]) (n := 3) (Nat.le_of_ble_eq_true rfl)
  rw [lg_entry_eq]
  generalize (lg_sl ([.ref h, .int y, .int v]) ++ List.replicate (3 - (lg_sl ([.ref h, .int y, .int v])).length) Slot.unset).toArray = ls at hl ⊢
  have hl : lv_has ls 3 [(0, .ref h), (1, .int y), (2, .int v)] := hl
  refine lv_aload_n hx hb dX2_written_0 rfl (lv_at hl 0 rfl) ?_
  refine va_get (D := G.1) (ci := 2) (v := .ref (b 5)) (C := RX2) (T := TX2) (N := 3) hx hb hts (fun w9 h9 => List.mem_cons_of_mem _ (List.mem_append_left _ (List.mem_append_left _ (List.mem_append_right _ h9)))) hown hK hP 0 rfl rfl 0 (by decide) (hts (.fieldLink RX2 10 "GlassHarp" "score" "LGlassHarp$Score;") (List.mem_of_getElem? (i := 3) rfl)) (fun _ h9 => h9) rfl dX2_written_1 ?_
  refine lv_iload_n hx hb dX2_written_4 rfl (lv_at hl 1 rfl) ?_
  refine gh_ci (va_runVN (As := [.int y]) (rest := []) ⟨hx, hb, hml, hown, hts⟩ (c_X1_hasNote l G b z y) ⟨va_cnB 1 hts gX2_written_X1_hasNote_n130 rfl rfl rfl (hE.2.1 (RX2, 130, yX1_hasNote, RX2) (List.mem_of_getElem? (i := 11) rfl)) (hts (.initialized RX1) (List.mem_of_getElem? (i := 5) rfl)) hdS_X1_hasNote ⟨Nat.le_of_ble_eq_true rfl, Nat.le_of_ble_eq_true rfl⟩, (hts (.instanceMethod yX1_hasNote) (List.mem_of_getElem? (i := 4) rfl)), (hts (.selects RX1 yX1_hasNote yX1_hasNote) (List.mem_of_getElem? (i := 6) rfl))⟩ (gh_rV hE (hP.sub (ws' := wS G b z) [1, 2, 3, 4] rfl) (ci := 1) (q0 := 0) rfl rfl) rfl rfl hl.1 rfl (lv_room (Nat.le_of_ble_eq_true rfl)) dX2_written_5 ⟨Nat.le_of_ble_eq_true rfl, Nat.le_of_ble_eq_true rfl⟩) ?_
  refine lv_if_eq (tgt := 20) hx hb dX2_written_8 (by decide) (fun c_1 => ?_) (fun c_1 => ?_)
  · skip
    obtain ⟨sa, hsa⟩ := hV.2.1 (142, "no such place, or what is not 0 to 2") (List.mem_of_getElem? (i := 3) rfl)
    exact vx_throwS (A := A) (names := ["java/lang/RuntimeException", "java/lang/Exception"]) hx hb hfl hown gx_fit_O gx_fit_n (hts (.classLink RX2 54 "java/lang/IndexOutOfBoundsException") (List.mem_of_getElem? (i := 1) rfl)) (hts (.initialized "java/lang/IndexOutOfBoundsException") (List.mem_of_getElem? (i := 2) rfl)) hsa (vx_hat (fun w9 h9 => hts w9 ((fun w9 h9 => List.mem_cons_of_mem _ (List.mem_append_right _ h9)) w9 h9)) gx_bad_58 (vx_c (va_Nw.use rfl hV.1.2.2) (vx_c (va_Nw.use rfl hV.2.2.2.2.2.2.1) (vx_c (va_Nw.use rfl hV.2.2.2.2.2.2.2.1) (vx_c (va_Nw.use rfl hV.2.2.2.2.2.2.2.2) vx_n))))) gx_ot_58 hZ.1 hZ.2 hS (hl.1.trans hml.symm) dX2_written_20 dX2_written_23 dX2_written_24 dX2_written_26 dX2_written_29 (fun x9 h9 => (htab x9 h9).elim) (Nat.le_of_ble_eq_true rfl) (Nat.le_of_ble_eq_true rfl) (Nat.le_of_ble_eq_true rfl) (Nat.le_of_ble_eq_true rfl) hlocks (fun t9 ha9 h1 h2 => gx_x hP hS h1 h2 (⟨rfl, by first | (simp only [gc_k2, c_1, ↓reduceIte, if_true, if_false]; done) | (simp only [gc_k2]; simp only [c_1, ↓reduceIte, if_true, if_false]; done) | (simp [gc_k2, c_1, ↓reduceIte, if_true, if_false]; done)⟩)) hS.2.2 (Nat.le_of_ble_eq_true rfl) (Nat.le_of_ble_eq_true rfl)
  · skip
    obtain ⟨k, hk, ek⟩ := gh_rg_k c_1 hz (Nat.lt_of_le_of_lt hz32 (by decide))
    have ekc : y.toNatClampNeg = k := by rw [ek, nI_clamp (Nat.lt_trans hk (Nat.lt_of_le_of_lt hz32 (by decide)))]
    refine lv_iload_n hx hb dX2_written_11 rfl (lv_at hl 2 rfl) ?_
    refine lv_iconst (v := 0) hx hb dX2_written_12 (by decide) ?_
    refine lv_iconst (v := 2) hx hb dX2_written_13 (by decide) ?_
    refine gh_ci (va_runS (As := [.int v, .int 0, .int 2]) (rest := []) ⟨hx, hb, hml, hown, hts⟩ (c_X2_isWithin l G v 0 2) (va_cwS 3 hts gX2_written_X2_isWithin rfl rfl rfl hdS_X2_isWithin ⟨Nat.le_of_ble_eq_true rfl, Nat.le_of_ble_eq_true rfl⟩) (gh_rS hE (fun k q h => by simp at h)) rfl rfl hl.1 rfl (lv_room (Nat.le_of_ble_eq_true rfl)) dX2_written_14 ⟨Nat.le_of_ble_eq_true rfl, Nat.le_of_ble_eq_true rfl⟩) ?_
    refine lv_if_ne (tgt := 30) hx hb dX2_written_17 (by decide) (fun c_2 => ?_) (fun c_2 => ?_)
    · skip
      obtain ⟨w, hw, ew⟩ := gm_i8 (k := 3) c_2 (by decide) (by decide) (by decide)
      have ewc : v.toNatClampNeg = w := by rw [ew, nI_clamp (Nat.lt_trans hw (by decide))]
      refine lv_iload_n hx hb dX2_written_30 rfl (lv_at hl 2 rfl) ?_
      refine gh_vv (y := nI w) (ew) ?_
      rcases gx_3 hw with rfl | rfl | rfl
      · skip
        refine lv_lookup (x := nI 0) (off := 25) (tgt := 56) hx hb dX2_written_31 (by decide) (by decide) (by decide) ?_
        refine lv_aload_n hx hb dX2_written_56 rfl (lv_at hl 0 rfl) ?_
        refine va_get (D := G.1) (ci := 2) (v := .ref (b 5)) (C := RX2) (T := TX2) (N := 3) hx hb hts (fun w9 h9 => List.mem_cons_of_mem _ (List.mem_append_left _ (List.mem_append_left _ (List.mem_append_right _ h9)))) hown hK hP 0 rfl rfl 0 (by decide) (hts (.fieldLink RX2 10 "GlassHarp" "score" "LGlassHarp$Score;") (List.mem_of_getElem? (i := 3) rfl)) (fun _ h9 => h9) rfl dX2_written_57 ?_
        refine va_getN (D := G.1) (ci := 1) (v := .ref (b 0)) (C := RX1) (T := TX1) (N := 5) hx hb hts (fun w9 h9 => List.mem_cons_of_mem _ (List.mem_append_left _ (List.mem_append_right _ h9))) hown hK hP 1 rfl rfl 0 (by decide) (va_Nw.use rfl (hE.2.2 (RX2, 144, "GlassHarp$Score", "beats", "[I", RX2) (List.mem_of_getElem? (i := 0) rfl))) (fun _ h9 => h9) rfl dX2_written_60 ?_
        refine lv_iload_n hx hb dX2_written_63 rfl (lv_at hl 1 rfl) ?_
        refine gh_vv (y := nI k) (ek) ?_
        refine gh_ia (f := z 0) hx hb hK hP 2 0 rfl rfl k (rfl) (by omega) (by decide) dX2_written_64 ?_
        refine W.widen (k := 1) (n := 6) (by omega) (by omega) ?_
        have hP9 := hP
        exact vx_ret (W.iret (v := z 0 k) hx hb hr (fun t9 ht hW => ⟨⟨z 0 k, (), rfl, ⟨by first | (simp only [gc_wr, c_1, ekc, c_2, ewc, ↓reduceIte, if_true, if_false]; done) | (simp only [gc_wr]; simp only [c_1, ekc, c_2, ewc, ↓reduceIte, if_true, if_false]; done) | (simp [gc_wr, c_1, ekc, c_2, ewc, ↓reduceIte, if_true, if_false]; done), by first | (simp only [gc_k2, c_1, ekc, c_2, ewc, ↓reduceIte, if_true, if_false]; done) | (simp only [gc_k2]; simp only [c_1, ekc, c_2, ewc, ↓reduceIte, if_true, if_false]; done) | (simp [gc_k2, c_1, ekc, c_2, ewc, ↓reduceIte, if_true, if_false]; done)⟩, gh_hp hP9 ht⟩, hS.F ht⟩) hS.2.2 dX2_written_65)
      · skip
        refine lv_lookup (x := nI 1) (off := 35) (tgt := 66) hx hb dX2_written_31 (by decide) (by decide) (by decide) ?_
        refine lv_aload_n hx hb dX2_written_66 rfl (lv_at hl 0 rfl) ?_
        refine va_get (D := G.1) (ci := 2) (v := .ref (b 5)) (C := RX2) (T := TX2) (N := 3) hx hb hts (fun w9 h9 => List.mem_cons_of_mem _ (List.mem_append_left _ (List.mem_append_left _ (List.mem_append_right _ h9)))) hown hK hP 0 rfl rfl 0 (by decide) (hts (.fieldLink RX2 10 "GlassHarp" "score" "LGlassHarp$Score;") (List.mem_of_getElem? (i := 3) rfl)) (fun _ h9 => h9) rfl dX2_written_67 ?_
        refine va_getN (D := G.1) (ci := 1) (v := .ref (b 1)) (C := RX1) (T := TX1) (N := 5) hx hb hts (fun w9 h9 => List.mem_cons_of_mem _ (List.mem_append_left _ (List.mem_append_right _ h9))) hown hK hP 1 rfl rfl 1 (by decide) (va_Nw.use rfl (hE.2.2 (RX2, 135, "GlassHarp$Score", "tones", "[I", RX2) (List.mem_of_getElem? (i := 2) rfl))) (fun _ h9 => h9) rfl dX2_written_70 ?_
        refine lv_iload_n hx hb dX2_written_73 rfl (lv_at hl 1 rfl) ?_
        refine gh_vv (y := nI k) (ek) ?_
        refine gh_ia (f := z 1) hx hb hK hP 3 0 rfl rfl k (rfl) (by omega) (by decide) dX2_written_74 ?_
        refine W.widen (k := 1) (n := 6) (by omega) (by omega) ?_
        have hP9 := hP
        exact vx_ret (W.iret (v := z 1 k) hx hb hr (fun t9 ht hW => ⟨⟨z 1 k, (), rfl, ⟨by first | (simp only [gc_wr, c_1, ekc, c_2, ewc, ↓reduceIte, if_true, if_false]; done) | (simp only [gc_wr]; simp only [c_1, ekc, c_2, ewc, ↓reduceIte, if_true, if_false]; done) | (simp [gc_wr, c_1, ekc, c_2, ewc, ↓reduceIte, if_true, if_false]; done), by first | (simp only [gc_k2, c_1, ekc, c_2, ewc, ↓reduceIte, if_true, if_false]; done) | (simp only [gc_k2]; simp only [c_1, ekc, c_2, ewc, ↓reduceIte, if_true, if_false]; done) | (simp [gc_k2, c_1, ekc, c_2, ewc, ↓reduceIte, if_true, if_false]; done)⟩, gh_hp hP9 ht⟩, hS.F ht⟩) hS.2.2 dX2_written_75)
      · skip
        refine lv_lookup (x := nI 2) (off := 45) (tgt := 76) hx hb dX2_written_31 (by decide) (by decide) (by decide) ?_
        refine lv_aload_n hx hb dX2_written_76 rfl (lv_at hl 0 rfl) ?_
        refine va_get (D := G.1) (ci := 2) (v := .ref (b 5)) (C := RX2) (T := TX2) (N := 3) hx hb hts (fun w9 h9 => List.mem_cons_of_mem _ (List.mem_append_left _ (List.mem_append_left _ (List.mem_append_right _ h9)))) hown hK hP 0 rfl rfl 0 (by decide) (hts (.fieldLink RX2 10 "GlassHarp" "score" "LGlassHarp$Score;") (List.mem_of_getElem? (i := 3) rfl)) (fun _ h9 => h9) rfl dX2_written_77 ?_
        refine va_getN (D := G.1) (ci := 1) (v := .ref (b 2)) (C := RX1) (T := TX1) (N := 5) hx hb hts (fun w9 h9 => List.mem_cons_of_mem _ (List.mem_append_left _ (List.mem_append_right _ h9))) hown hK hP 1 rfl rfl 2 (by decide) (va_Nw.use rfl (hE.2.2 (RX2, 147, "GlassHarp$Score", "forces", "[I", RX2) (List.mem_of_getElem? (i := 4) rfl))) (fun _ h9 => h9) rfl dX2_written_80 ?_
        refine lv_iload_n hx hb dX2_written_83 rfl (lv_at hl 1 rfl) ?_
        refine gh_vv (y := nI k) (ek) ?_
        refine gh_ia (f := z 2) hx hb hK hP 4 0 rfl rfl k (rfl) (by omega) (by decide) dX2_written_84 ?_
        refine W.widen (k := 1) (n := 6) (by omega) (by omega) ?_
        have hP9 := hP
        exact vx_ret (W.iret (v := z 2 k) hx hb hr (fun t9 ht hW => ⟨⟨z 2 k, (), rfl, ⟨by first | (simp only [gc_wr, c_1, ekc, c_2, ewc, ↓reduceIte, if_true, if_false]; done) | (simp only [gc_wr]; simp only [c_1, ekc, c_2, ewc, ↓reduceIte, if_true, if_false]; done) | (simp [gc_wr, c_1, ekc, c_2, ewc, ↓reduceIte, if_true, if_false]; done), by first | (simp only [gc_k2, c_1, ekc, c_2, ewc, ↓reduceIte, if_true, if_false]; done) | (simp only [gc_k2]; simp only [c_1, ekc, c_2, ewc, ↓reduceIte, if_true, if_false]; done) | (simp [gc_k2, c_1, ekc, c_2, ewc, ↓reduceIte, if_true, if_false]; done)⟩, gh_hp hP9 ht⟩, hS.F ht⟩) hS.2.2 dX2_written_85)
    · skip
      obtain ⟨sa, hsa⟩ := hV.2.1 (142, "no such place, or what is not 0 to 2") (List.mem_of_getElem? (i := 3) rfl)
      exact vx_throwS (A := A) (names := ["java/lang/RuntimeException", "java/lang/Exception"]) hx hb hfl hown gx_fit_O gx_fit_n (hts (.classLink RX2 54 "java/lang/IndexOutOfBoundsException") (List.mem_of_getElem? (i := 1) rfl)) (hts (.initialized "java/lang/IndexOutOfBoundsException") (List.mem_of_getElem? (i := 2) rfl)) hsa (vx_hat (fun w9 h9 => hts w9 ((fun w9 h9 => List.mem_cons_of_mem _ (List.mem_append_right _ h9)) w9 h9)) gx_bad_58 (vx_c (va_Nw.use rfl hV.1.2.2) (vx_c (va_Nw.use rfl hV.2.2.2.2.2.2.1) (vx_c (va_Nw.use rfl hV.2.2.2.2.2.2.2.1) (vx_c (va_Nw.use rfl hV.2.2.2.2.2.2.2.2) vx_n))))) gx_ot_58 hZ.1 hZ.2 hS (hl.1.trans hml.symm) dX2_written_20 dX2_written_23 dX2_written_24 dX2_written_26 dX2_written_29 (fun x9 h9 => (htab x9 h9).elim) (Nat.le_of_ble_eq_true rfl) (Nat.le_of_ble_eq_true rfl) (Nat.le_of_ble_eq_true rfl) (Nat.le_of_ble_eq_true rfl) hlocks (fun t9 ha9 h1 h2 => gx_x hP hS h1 h2 (⟨rfl, by first | (simp only [gc_k2, c_1, ekc, c_2, ↓reduceIte, if_true, if_false]; done) | (simp only [gc_k2]; simp only [c_1, ekc, c_2, ↓reduceIte, if_true, if_false]; done) | (simp [gc_k2, c_1, ekc, c_2, ↓reduceIte, if_true, if_false]; done)⟩)) hS.2.2 (Nat.le_of_ble_eq_true rfl) (Nat.le_of_ble_eq_true rfl)
set_option maxHeartbeats 4000000 in
set_option maxRecDepth 100000 in
theorem c_X2_play (l : Launch) (hfl : l.stackTraces = false) (G : gh_G) (sz : Nat) (h : Nat) (a : Nat → Nat) (b : Nat → Nat) (d : Nat → Nat) (o : gh_B) (z : gh_B) (n : Nat) (nn : Nat) (y : Int32) (hn : o 10 0 = nI n) (hn16 : n ≤ 16) (hz : z 3 0 = nI nn) (hz32 : nn ≤ 32) : vx_Met l yX2_play wsX2_play ({ frames := 6, cells := 1, slots := 6, locals := 115 } : Room) (gx_w G [.ref h, .int y] ((wH h (b 5) (a 0) (d 0)) ++ (wO G a (b 5) o) ++ (wS G b z)) sz) (va_Qi (fun (r9 : Int32) (_ : Unit) => r9 = gh_go z o n nn y.toNatClampNeg 12 0 - o 12 0 ∧ gc_k1 (gh_iw y 1 200) = 0) (fun _ t9 => va_P G.1 vwCl ((wH h (b 5) (a 0) (d 0)) ++ (wO G a (b 5) (gh_go z o n nn y.toNatClampNeg)) ++ (wS G b z)) t9.heap) (va_A ((wH h (b 5) (a 0) (d 0)) ++ (wO G a (b 5) o) ++ (wS G b z)) sz)) (vx_X (fun _ : Unit => True) (fun E9 _ t9 => ((E9 = gx_A ∧ gc_k1 (gh_iw y 1 200) = 1)) ∧ va_P G.1 vwCl ((wH h (b 5) (a 0) (d 0)) ++ (wO G a (b 5) o) ++ (wS G b z)) t9.heap) (va_A ((wH h (b 5) (a 0) (d 0)) ++ (wO G a (b 5) o) ++ (wS G b z)) sz)) 1 6 (va_A ((wH h (b 5) (a 0) (d 0)) ++ (wO G a (b 5) o) ++ (wS G b z)) sz) := by
  refine vx_ofW (cc := cX2_play) (maxL := 3) (ret := (some .int)) (by decide) rfl ?_
  intro p e s m args below meth c s₁ B hml htab hv
  obtain ⟨rfl, hsz, hP, hE, hD0, hV, hZ⟩ := hv
  have hx := B.exec
  have hb := B.bytes
  have hr := B.returns
  have hts := atoms_spec (ws := wsX2_play) B.pre
  have hown : s.vm.findClass RX2 = some m.cls := findClass_of_methodNamed B.named
  have hlocks := B.notSynchronized
  have hK := hE.1
  subst hsz
  have hD := hD0.self (sz := s.heap.size)
  generalize hAe : va_A ((wH h (b 5) (a 0) (d 0)) ++ (wO G a (b 5) o) ++ (wS G b z)) s.heap.size = A at hD hZ ⊢
  have hA : ∀ q : Nat, s.heap.size ≤ q → A q := fun q h => by rw [← hAe]; exact Or.inr h
  have hS : va_S A s.heap s.heap [] := va_S.rf
  have hl := lv_entry ([.ref h, .int y]) (n := 3) (Nat.le_of_ble_eq_true rfl)
  rw [lg_entry_eq]
  generalize (lg_sl ([.ref h, .int y]) ++ List.replicate (3 - (lg_sl ([.ref h, .int y])).length) Slot.unset).toArray = ls at hl ⊢
  have hl : lv_has ls 3 [(0, .ref h), (1, .int y)] := hl
  refine lv_iload_n hx hb dX2_play_0 rfl (lv_at hl 1 rfl) ?_
  refine lv_iconst (v := 1) hx hb dX2_play_1 (by decide) ?_
  refine lv_sipush (v := 200) hx hb dX2_play_2 (by decide) ?_
  refine gh_ci (va_runS (As := [.int y, .int 1, .int 200]) (rest := []) ⟨hx, hb, hml, hown, hts⟩ (c_X2_isWithin l G y 1 200) (va_cwS 3 hts gX2_play_X2_isWithin rfl rfl rfl hdS_X2_isWithin ⟨Nat.le_of_ble_eq_true rfl, Nat.le_of_ble_eq_true rfl⟩) (gh_rS hE (fun k q h => by simp at h)) rfl rfl hl.1 rfl (lv_room (Nat.le_of_ble_eq_true rfl)) dX2_play_5 ⟨Nat.le_of_ble_eq_true rfl, Nat.le_of_ble_eq_true rfl⟩) ?_
  refine lv_if_ne (tgt := 21) hx hb dX2_play_8 (by decide) (fun c_1 => ?_) (fun c_1 => ?_)
  · skip
    obtain ⟨b1, hb11, hb12, eb1⟩ := gh_iw_r (a := 1) (b := 200) c_1 (by decide) (by decide) (by decide) (by decide)
    have eb1c : y.toNatClampNeg = b1 := by rw [eb1, nI_clamp (Nat.lt_of_le_of_lt hb12 (by decide))]
    refine lv_aload_n hx hb dX2_play_21 rfl (lv_at hl 0 rfl) ?_
    refine va_get (D := G.1) (ci := 2) (v := .ref (a 0)) (C := RX2) (T := TX2) (N := 3) hx hb hts (fun w9 h9 => List.mem_cons_of_mem _ (List.mem_append_left _ (List.mem_append_left _ (List.mem_append_left _ (List.mem_append_right _ h9))))) hown hK hP 0 rfl rfl 1 (by decide) (hts (.fieldLink RX2 21 "GlassHarp" "now" "LGlassHarp$Orchestra;") (List.mem_of_getElem? (i := 3) rfl)) (fun _ h9 => h9) rfl dX2_play_22 ?_
    refine va_getN (D := G.1) (ci := 0) (v := .int (o 12 0)) (C := RX0) (T := TX0) (N := 15) hx hb hts (fun w9 h9 => List.mem_cons_of_mem _ (List.mem_append_left _ (List.mem_append_left _ (List.mem_append_right _ h9)))) hown hK hP 1 rfl rfl 12 (by decide) (va_Nw.use rfl (hE.2.2 (RX2, 152, "GlassHarp$Orchestra", "played", "I", RX2) (List.mem_of_getElem? (i := 19) rfl))) (fun _ h9 => h9) rfl dX2_play_25 ?_
    refine lv_istore_n (lv' := [(2, .int (o 12 0)), (0, .ref h), (1, .int y)]) hx hb dX2_play_28 rfl hl (by decide) rfl (fun ls hl => ?_)
    refine lv_aload_n hx hb dX2_play_29 rfl (lv_at hl 1 rfl) ?_
    refine va_get (D := G.1) (ci := 2) (v := .ref (a 0)) (C := RX2) (T := TX2) (N := 3) hx hb hts (fun w9 h9 => List.mem_cons_of_mem _ (List.mem_append_left _ (List.mem_append_left _ (List.mem_append_left _ (List.mem_append_right _ h9))))) hown hK hP 0 rfl rfl 1 (by decide) (hts (.fieldLink RX2 21 "GlassHarp" "now" "LGlassHarp$Orchestra;") (List.mem_of_getElem? (i := 3) rfl)) (fun _ h9 => h9) rfl dX2_play_30 ?_
    refine lv_iload_n hx hb dX2_play_33 rfl (lv_at hl 2 rfl) ?_
    refine gh_vv (y := nI b1) (eb1) ?_
    refine gh_cv (wr := wH h (b 5) (a 0) (d 0)) (ws' := (wH h (b 5) (a 0) (d 0)) ++ (wO G a (b 5) (gh_go z o n nn b1)) ++ (wS G b z)) (va_runVN (As := [.int (nI b1)]) (rest := []) ⟨hx, hb, hml, hown, hts⟩ (c_X0_letGoBy l G s.heap.size a b o z n nn b1 (hn) (hn16) (hz) (hz32) (Nat.lt_of_le_of_lt hb12 (by decide))) ⟨va_cnB 1 hts gX2_play_X0_letGoBy_n155 rfl rfl rfl (hE.2.1 (RX2, 155, yX0_letGoBy, RX2) (List.mem_of_getElem? (i := 16) rfl)) (hts (.initialized RX0) (List.mem_of_getElem? (i := 9) rfl)) hdS_X0_letGoBy ⟨Nat.le_of_ble_eq_true rfl, Nat.le_of_ble_eq_true rfl⟩, (hts (.instanceMethod yX0_letGoBy) (List.mem_of_getElem? (i := 8) rfl)), (hts (.selects RX0 yX0_letGoBy yX0_letGoBy) (List.mem_of_getElem? (i := 10) rfl))⟩ (gh_wV hE (hP.sub (ws' := (wO G a (b 5) o) ++ (wS G b z)) [1, 2, 3, 4, 5, 6, 7, 8, 9, 10, 11, 12, 13, 14] rfl) (hD.sub (ws' := (wO G a (b 5) o) ++ (wS G b z)) [1, 2, 3, 4, 5, 6, 7, 8, 9, 10, 11, 12, 13, 14] (by decide) rfl) (ci := 0) (q0 := 0) rfl rfl) rfl rfl hl.1 rfl (lv_room (Nat.le_of_ble_eq_true rfl)) dX2_play_34 ⟨Nat.le_of_ble_eq_true rfl, Nat.le_of_ble_eq_true rfl⟩) hP hD hS hA [1, 2, 3, 4, 5, 6, 7, 8, 9, 10, 11, 12, 13, 14] [0] [0, 1, 2, 3, 4, 5, 6, 7, 8, 9, 10, 11, 12, 13, 14] rfl rfl (by decide) (by decide) (by decide) [a 0, a 1, a 2, a 3, a 4, a 5, a 6, a 7, a 8, a 9, b 5, b 0, b 1, b 2] [h, a 0, a 1, a 2, a 3, a 4, a 5, a 6, a 7, a 8, a 9, b 5, b 0, b 1, b 2] rfl rfl rfl rfl rfl (fun H locs hP hD hS => ?_)
    refine lv_aload_n hx hb dX2_play_37 rfl (lv_at hl 1 rfl) ?_
    refine va_get (D := G.1) (ci := 2) (v := .ref (a 0)) (C := RX2) (T := TX2) (N := 3) hx hb hts (fun w9 h9 => List.mem_cons_of_mem _ (List.mem_append_left _ (List.mem_append_left _ (List.mem_append_left _ (List.mem_append_right _ h9))))) hown hK hP 0 rfl rfl 1 (by decide) (hts (.fieldLink RX2 21 "GlassHarp" "now" "LGlassHarp$Orchestra;") (List.mem_of_getElem? (i := 3) rfl)) (fun _ h9 => h9) rfl dX2_play_38 ?_
    refine va_getN (D := G.1) (ci := 0) (v := .int ((gh_go z o n nn b1) 12 0)) (C := RX0) (T := TX0) (N := 15) hx hb hts (fun w9 h9 => List.mem_cons_of_mem _ (List.mem_append_left _ (List.mem_append_left _ (List.mem_append_right _ h9)))) hown hK hP 1 rfl rfl 12 (by decide) (va_Nw.use rfl (hE.2.2 (RX2, 152, "GlassHarp$Orchestra", "played", "I", RX2) (List.mem_of_getElem? (i := 19) rfl))) (fun _ h9 => h9) rfl dX2_play_41 ?_
    refine lv_iload_n hx hb dX2_play_44 rfl (lv_at hl 0 rfl) ?_
    refine lv_isub hx hb dX2_play_45 ?_
    refine W.widen (k := 1) (n := 6) (by omega) (by omega) ?_
    have hP9 : va_P G.1 vwCl ((wH h (b 5) (a 0) (d 0)) ++ (wO G a (b 5) (gh_go z o n nn y.toNatClampNeg)) ++ (wS G b z)) H := by
      have e9 : gh_go z o n nn b1 = gh_go z o n nn y.toNatClampNeg := by first | (simp only [c_1, eb1c, ↓reduceIte, if_true, if_false]; done) | (simp only [c_1, eb1c, ↓reduceIte, if_true, if_false]; rfl) | (simp [c_1, eb1c, ↓reduceIte, if_true, if_false]; done)
      rw [← e9]
      exact hP
    exact vx_ret (W.iret (v := ((gh_go z o n nn b1) 12 0) - (o 12 0)) hx hb hr (fun t9 ht hW => ⟨⟨((gh_go z o n nn b1) 12 0) - (o 12 0), (), rfl, ⟨by first | (simp only [c_1, eb1c, ↓reduceIte, if_true, if_false]; done) | (simp only [c_1, eb1c, ↓reduceIte, if_true, if_false]; rfl) | (simp [c_1, eb1c, ↓reduceIte, if_true, if_false]; done), by first | (simp only [gc_k1, c_1, eb1c, ↓reduceIte, if_true, if_false]; done) | (simp only [gc_k1]; simp only [c_1, eb1c, ↓reduceIte, if_true, if_false]; done) | (simp [gc_k1, c_1, eb1c, ↓reduceIte, if_true, if_false]; done)⟩, gh_hp hP9 ht⟩, hS.F ht⟩) hS.2.2 dX2_play_46)
  · skip
    obtain ⟨sa, hsa⟩ := hV.2.1 (150, "beats is not 1 to 200") (List.mem_of_getElem? (i := 18) rfl)
    exact vx_throwS (A := A) (names := ["java/lang/RuntimeException", "java/lang/Exception"]) hx hb hfl hown gx_fit_A gx_fit_n (hts (.classLink RX2 32 "java/lang/IllegalArgumentException") (List.mem_of_getElem? (i := 1) rfl)) (hts (.initialized "java/lang/IllegalArgumentException") (List.mem_of_getElem? (i := 2) rfl)) hsa (vx_hat (fun w9 h9 => hts w9 ((fun w9 h9 => List.mem_cons_of_mem _ (List.mem_append_right _ h9)) w9 h9)) gx_bad_36 (vx_c (va_Nw.use rfl hV.1.1) (vx_c (va_Nw.use rfl hV.2.2.2.2.2.2.1) (vx_c (va_Nw.use rfl hV.2.2.2.2.2.2.2.1) (vx_c (va_Nw.use rfl hV.2.2.2.2.2.2.2.2) vx_n))))) gx_ot_36 hZ.1 hZ.2 hS (hl.1.trans hml.symm) dX2_play_11 dX2_play_14 dX2_play_15 dX2_play_17 dX2_play_20 (fun x9 h9 => (htab x9 h9).elim) (Nat.le_of_ble_eq_true rfl) (Nat.le_of_ble_eq_true rfl) (Nat.le_of_ble_eq_true rfl) (Nat.le_of_ble_eq_true rfl) hlocks (fun t9 ha9 h1 h2 => gx_x hP hS h1 h2 (⟨rfl, by first | (simp only [gc_k1, c_1, ↓reduceIte, if_true, if_false]; done) | (simp only [gc_k1]; simp only [c_1, ↓reduceIte, if_true, if_false]; done) | (simp [gc_k1, c_1, ↓reduceIte, if_true, if_false]; done)⟩)) hS.2.2 (Nat.le_of_ble_eq_true rfl) (Nat.le_of_ble_eq_true rfl)
set_option maxHeartbeats 4000000 in
set_option maxRecDepth 100000 in
theorem c_X2_count (l : Launch) (hfl : l.stackTraces = false) (G : gh_G) (sz : Nat) (h : Nat) (a : Nat → Nat) (b : Nat → Nat) (d : Nat → Nat) (o : gh_B) (z : gh_B) (n : Nat) (nn : Nat) (y : Int32) (hn : o 10 0 = nI n) (hn16 : n ≤ 16) (hz : z 3 0 = nI nn) (hz32 : nn ≤ 32) : vx_Met l yX2_count wsX2_count ({ frames := 6, cells := 1, slots := 6, locals := 111 } : Room) (gx_w G [.ref h, .int y] ((wH h (b 5) (a 0) (d 0)) ++ (wO G a (b 5) o) ++ (wS G b z)) sz) (va_Qi (fun (r9 : Int32) (_ : Unit) => r9 = gc_cl o z n y.toNatClampNeg ∧ gc_k1 (gh_iw y 0 8) = 0) (fun _ t9 => va_P G.1 vwCl ((wH h (b 5) (a 0) (d 0)) ++ (wO G a (b 5) o) ++ (wS G b z)) t9.heap) (va_A ((wH h (b 5) (a 0) (d 0)) ++ (wO G a (b 5) o) ++ (wS G b z)) sz)) (vx_X (fun _ : Unit => True) (fun E9 _ t9 => ((E9 = gx_O ∧ gc_k1 (gh_iw y 0 8) = 1)) ∧ va_P G.1 vwCl ((wH h (b 5) (a 0) (d 0)) ++ (wO G a (b 5) o) ++ (wS G b z)) t9.heap) (va_A ((wH h (b 5) (a 0) (d 0)) ++ (wO G a (b 5) o) ++ (wS G b z)) sz)) 1 6 (va_A ((wH h (b 5) (a 0) (d 0)) ++ (wO G a (b 5) o) ++ (wS G b z)) sz) := by
  refine vx_ofW (cc := cX2_count) (maxL := 2) (ret := (some .int)) (by decide) rfl ?_
  intro p e s m args below meth c s₁ B hml htab hv
  obtain ⟨rfl, hsz, hP, hE, hD0, hV, hZ⟩ := hv
  have hx := B.exec
  have hb := B.bytes
  have hr := B.returns
  have hts := atoms_spec (ws := wsX2_count) B.pre
  have hown : s.vm.findClass RX2 = some m.cls := findClass_of_methodNamed B.named
  have hlocks := B.notSynchronized
  have hK := hE.1
  subst hsz
  have hD := hD0.self (sz := s.heap.size)
  generalize hAe : va_A ((wH h (b 5) (a 0) (d 0)) ++ (wO G a (b 5) o) ++ (wS G b z)) s.heap.size = A at hD hZ ⊢
  have hA : ∀ q : Nat, s.heap.size ≤ q → A q := fun q h => by rw [← hAe]; exact Or.inr h
  have hS : va_S A s.heap s.heap [] := va_S.rf
  have hl := lv_entry ([.ref h, .int y]) (n := 2) (Nat.le_of_ble_eq_true rfl)
  rw [lg_entry_eq]
  generalize (lg_sl ([.ref h, .int y]) ++ List.replicate (2 - (lg_sl ([.ref h, .int y])).length) Slot.unset).toArray = ls at hl ⊢
  have hl : lv_has ls 2 [(0, .ref h), (1, .int y)] := hl
  refine lv_iload_n hx hb dX2_count_0 rfl (lv_at hl 1 rfl) ?_
  refine lv_iconst (v := 0) hx hb dX2_count_1 (by decide) ?_
  refine lv_bipush (v := 8) hx hb dX2_count_2 (by decide) ?_
  refine gh_ci (va_runS (As := [.int y, .int 0, .int 8]) (rest := []) ⟨hx, hb, hml, hown, hts⟩ (c_X2_isWithin l G y 0 8) (va_cwS 3 hts gX2_count_X2_isWithin rfl rfl rfl hdS_X2_isWithin ⟨Nat.le_of_ble_eq_true rfl, Nat.le_of_ble_eq_true rfl⟩) (gh_rS hE (fun k q h => by simp at h)) rfl rfl hl.1 rfl (lv_room (Nat.le_of_ble_eq_true rfl)) dX2_count_4 ⟨Nat.le_of_ble_eq_true rfl, Nat.le_of_ble_eq_true rfl⟩) ?_
  refine lv_if_ne (tgt := 20) hx hb dX2_count_7 (by decide) (fun c_1 => ?_) (fun c_1 => ?_)
  · skip
    obtain ⟨w, hw, ew⟩ := gm_i8 (k := 9) c_1 (by decide) (by decide) (by decide)
    have ewc : y.toNatClampNeg = w := by rw [ew, nI_clamp (Nat.lt_trans hw (by decide))]
    refine lv_iload_n hx hb dX2_count_20 rfl (lv_at hl 1 rfl) ?_
    refine gh_vv (y := nI w) (ew) ?_
    rcases gx_9 hw with rfl | rfl | rfl | rfl | rfl | rfl | rfl | rfl | rfl
    · skip
      refine lv_tableIn (x := nI 0) (off := 47) (tgt := 68) hx hb dX2_count_21 (by decide) (by decide) (by decide) (by decide) ?_
      refine lv_aload_n hx hb dX2_count_68 rfl (lv_at hl 0 rfl) ?_
      refine va_get (D := G.1) (ci := 2) (v := .ref (a 0)) (C := RX2) (T := TX2) (N := 3) hx hb hts (fun w9 h9 => List.mem_cons_of_mem _ (List.mem_append_left _ (List.mem_append_left _ (List.mem_append_left _ (List.mem_append_right _ h9))))) hown hK hP 0 rfl rfl 1 (by decide) (hts (.fieldLink RX2 21 "GlassHarp" "now" "LGlassHarp$Orchestra;") (List.mem_of_getElem? (i := 3) rfl)) (fun _ h9 => h9) rfl dX2_count_69 ?_
      refine va_getN (D := G.1) (ci := 0) (v := .int (o 11 0)) (C := RX0) (T := TX0) (N := 15) hx hb hts (fun w9 h9 => List.mem_cons_of_mem _ (List.mem_append_left _ (List.mem_append_left _ (List.mem_append_right _ h9)))) hown hK hP 1 rfl rfl 11 (by decide) (va_Nw.use rfl (hE.2.2 (RX2, 160, "GlassHarp$Orchestra", "beat", "I", RX2) (List.mem_of_getElem? (i := 18) rfl))) (fun _ h9 => h9) rfl dX2_count_72 ?_
      refine W.widen (k := 1) (n := 6) (by omega) (by omega) ?_
      have hP9 := hP
      exact vx_ret (W.iret (v := o 11 0) hx hb hr (fun t9 ht hW => ⟨⟨o 11 0, (), rfl, ⟨by first | (simp only [gc_cl, c_1, ewc, ↓reduceIte, if_true, if_false]; done) | (simp only [gc_cl]; simp only [c_1, ewc, ↓reduceIte, if_true, if_false]; done) | (simp [gc_cl, c_1, ewc, ↓reduceIte, if_true, if_false]; done), by first | (simp only [gc_k1, c_1, ewc, ↓reduceIte, if_true, if_false]; done) | (simp only [gc_k1]; simp only [c_1, ewc, ↓reduceIte, if_true, if_false]; done) | (simp [gc_k1, c_1, ewc, ↓reduceIte, if_true, if_false]; done)⟩, gh_hp hP9 ht⟩, hS.F ht⟩) hS.2.2 dX2_count_75)
    · skip
      refine lv_tableIn (x := nI 1) (off := 55) (tgt := 76) hx hb dX2_count_21 (by decide) (by decide) (by decide) (by decide) ?_
      refine lv_aload_n hx hb dX2_count_76 rfl (lv_at hl 0 rfl) ?_
      refine va_get (D := G.1) (ci := 2) (v := .ref (a 0)) (C := RX2) (T := TX2) (N := 3) hx hb hts (fun w9 h9 => List.mem_cons_of_mem _ (List.mem_append_left _ (List.mem_append_left _ (List.mem_append_left _ (List.mem_append_right _ h9))))) hown hK hP 0 rfl rfl 1 (by decide) (hts (.fieldLink RX2 21 "GlassHarp" "now" "LGlassHarp$Orchestra;") (List.mem_of_getElem? (i := 3) rfl)) (fun _ h9 => h9) rfl dX2_count_77 ?_
      refine va_getN (D := G.1) (ci := 0) (v := .int (o 10 0)) (C := RX0) (T := TX0) (N := 15) hx hb hts (fun w9 h9 => List.mem_cons_of_mem _ (List.mem_append_left _ (List.mem_append_left _ (List.mem_append_right _ h9)))) hown hK hP 1 rfl rfl 10 (by decide) (va_Nw.use rfl (hE.2.2 (RX2, 163, "GlassHarp$Orchestra", "glasses", "I", RX2) (List.mem_of_getElem? (i := 17) rfl))) (fun _ h9 => h9) rfl dX2_count_80 ?_
      refine W.widen (k := 1) (n := 6) (by omega) (by omega) ?_
      have hP9 := hP
      exact vx_ret (W.iret (v := o 10 0) hx hb hr (fun t9 ht hW => ⟨⟨o 10 0, (), rfl, ⟨by first | (simp only [gc_cl, c_1, ewc, ↓reduceIte, if_true, if_false]; done) | (simp only [gc_cl]; simp only [c_1, ewc, ↓reduceIte, if_true, if_false]; done) | (simp [gc_cl, c_1, ewc, ↓reduceIte, if_true, if_false]; done), by first | (simp only [gc_k1, c_1, ewc, ↓reduceIte, if_true, if_false]; done) | (simp only [gc_k1]; simp only [c_1, ewc, ↓reduceIte, if_true, if_false]; done) | (simp [gc_k1, c_1, ewc, ↓reduceIte, if_true, if_false]; done)⟩, gh_hp hP9 ht⟩, hS.F ht⟩) hS.2.2 dX2_count_83)
    · skip
      refine lv_tableIn (x := nI 2) (off := 63) (tgt := 84) hx hb dX2_count_21 (by decide) (by decide) (by decide) (by decide) ?_
      refine lv_aload_n hx hb dX2_count_84 rfl (lv_at hl 0 rfl) ?_
      refine va_get (D := G.1) (ci := 2) (v := .ref (a 0)) (C := RX2) (T := TX2) (N := 3) hx hb hts (fun w9 h9 => List.mem_cons_of_mem _ (List.mem_append_left _ (List.mem_append_left _ (List.mem_append_left _ (List.mem_append_right _ h9))))) hown hK hP 0 rfl rfl 1 (by decide) (hts (.fieldLink RX2 21 "GlassHarp" "now" "LGlassHarp$Orchestra;") (List.mem_of_getElem? (i := 3) rfl)) (fun _ h9 => h9) rfl dX2_count_85 ?_
      refine gh_ci (va_runVN (As := []) (rest := []) ⟨hx, hb, hml, hown, hts⟩ (c_X0_crackedGlasses l G a (b 5) o n (hn) (hn16)) ⟨va_cnB 0 hts gX2_count_X0_crackedGlasses_n166 rfl rfl rfl (hE.2.1 (RX2, 166, yX0_crackedGlasses, RX2) (List.mem_of_getElem? (i := 2) rfl)) (hts (.initialized RX0) (List.mem_of_getElem? (i := 10) rfl)) hdS_X0_crackedGlasses ⟨Nat.le_of_ble_eq_true rfl, Nat.le_of_ble_eq_true rfl⟩, (hts (.instanceMethod yX0_crackedGlasses) (List.mem_of_getElem? (i := 9) rfl)), (hts (.selects RX0 yX0_crackedGlasses yX0_crackedGlasses) (List.mem_of_getElem? (i := 11) rfl))⟩ (gh_rV hE (hP.sub (ws' := wO G a (b 5) o) [1, 2, 3, 4, 5, 6, 7, 8, 9, 10] rfl) (ci := 0) (q0 := 0) rfl rfl) rfl rfl hl.1 rfl (lv_room (Nat.le_of_ble_eq_true rfl)) dX2_count_88 ⟨Nat.le_of_ble_eq_true rfl, Nat.le_of_ble_eq_true rfl⟩) ?_
      refine W.widen (k := 1) (n := 6) (by omega) (by omega) ?_
      have hP9 := hP
      exact vx_ret (W.iret (v := gh_cn (o 4) n) hx hb hr (fun t9 ht hW => ⟨⟨gh_cn (o 4) n, (), rfl, ⟨by first | (simp only [gc_cl, c_1, ewc, ↓reduceIte, if_true, if_false]; done) | (simp only [gc_cl]; simp only [c_1, ewc, ↓reduceIte, if_true, if_false]; done) | (simp [gc_cl, c_1, ewc, ↓reduceIte, if_true, if_false]; done), by first | (simp only [gc_k1, c_1, ewc, ↓reduceIte, if_true, if_false]; done) | (simp only [gc_k1]; simp only [c_1, ewc, ↓reduceIte, if_true, if_false]; done) | (simp [gc_k1, c_1, ewc, ↓reduceIte, if_true, if_false]; done)⟩, gh_hp hP9 ht⟩, hS.F ht⟩) hS.2.2 dX2_count_91)
    · skip
      refine lv_tableIn (x := nI 3) (off := 71) (tgt := 92) hx hb dX2_count_21 (by decide) (by decide) (by decide) (by decide) ?_
      refine lv_aload_n hx hb dX2_count_92 rfl (lv_at hl 0 rfl) ?_
      refine va_get (D := G.1) (ci := 2) (v := .ref (b 5)) (C := RX2) (T := TX2) (N := 3) hx hb hts (fun w9 h9 => List.mem_cons_of_mem _ (List.mem_append_left _ (List.mem_append_left _ (List.mem_append_left _ (List.mem_append_right _ h9))))) hown hK hP 0 rfl rfl 0 (by decide) (hts (.fieldLink RX2 10 "GlassHarp" "score" "LGlassHarp$Score;") (List.mem_of_getElem? (i := 4) rfl)) (fun _ h9 => h9) rfl dX2_count_93 ?_
      refine va_getN (D := G.1) (ci := 1) (v := .int (z 3 0)) (C := RX1) (T := TX1) (N := 5) hx hb hts (fun w9 h9 => List.mem_cons_of_mem _ (List.mem_append_left _ (List.mem_append_right _ h9))) hown hK hP 11 rfl rfl 3 (by decide) (va_Nw.use rfl (hE.2.2 (RX2, 127, "GlassHarp$Score", "notes", "I", RX2) (List.mem_of_getElem? (i := 6) rfl))) (fun _ h9 => h9) rfl dX2_count_96 ?_
      refine W.widen (k := 1) (n := 6) (by omega) (by omega) ?_
      have hP9 := hP
      exact vx_ret (W.iret (v := z 3 0) hx hb hr (fun t9 ht hW => ⟨⟨z 3 0, (), rfl, ⟨by first | (simp only [gc_cl, c_1, ewc, ↓reduceIte, if_true, if_false]; done) | (simp only [gc_cl]; simp only [c_1, ewc, ↓reduceIte, if_true, if_false]; done) | (simp [gc_cl, c_1, ewc, ↓reduceIte, if_true, if_false]; done), by first | (simp only [gc_k1, c_1, ewc, ↓reduceIte, if_true, if_false]; done) | (simp only [gc_k1]; simp only [c_1, ewc, ↓reduceIte, if_true, if_false]; done) | (simp [gc_k1, c_1, ewc, ↓reduceIte, if_true, if_false]; done)⟩, gh_hp hP9 ht⟩, hS.F ht⟩) hS.2.2 dX2_count_99)
    · skip
      refine lv_tableIn (x := nI 4) (off := 79) (tgt := 100) hx hb dX2_count_21 (by decide) (by decide) (by decide) (by decide) ?_
      refine lv_aload_n hx hb dX2_count_100 rfl (lv_at hl 0 rfl) ?_
      refine va_get (D := G.1) (ci := 2) (v := .ref (a 0)) (C := RX2) (T := TX2) (N := 3) hx hb hts (fun w9 h9 => List.mem_cons_of_mem _ (List.mem_append_left _ (List.mem_append_left _ (List.mem_append_left _ (List.mem_append_right _ h9))))) hown hK hP 0 rfl rfl 1 (by decide) (hts (.fieldLink RX2 21 "GlassHarp" "now" "LGlassHarp$Orchestra;") (List.mem_of_getElem? (i := 3) rfl)) (fun _ h9 => h9) rfl dX2_count_101 ?_
      refine va_getN (D := G.1) (ci := 0) (v := .int (o 12 0)) (C := RX0) (T := TX0) (N := 15) hx hb hts (fun w9 h9 => List.mem_cons_of_mem _ (List.mem_append_left _ (List.mem_append_left _ (List.mem_append_right _ h9)))) hown hK hP 1 rfl rfl 12 (by decide) (va_Nw.use rfl (hE.2.2 (RX2, 152, "GlassHarp$Orchestra", "played", "I", RX2) (List.mem_of_getElem? (i := 19) rfl))) (fun _ h9 => h9) rfl dX2_count_104 ?_
      refine W.widen (k := 1) (n := 6) (by omega) (by omega) ?_
      have hP9 := hP
      exact vx_ret (W.iret (v := o 12 0) hx hb hr (fun t9 ht hW => ⟨⟨o 12 0, (), rfl, ⟨by first | (simp only [gc_cl, c_1, ewc, ↓reduceIte, if_true, if_false]; done) | (simp only [gc_cl]; simp only [c_1, ewc, ↓reduceIte, if_true, if_false]; done) | (simp [gc_cl, c_1, ewc, ↓reduceIte, if_true, if_false]; done), by first | (simp only [gc_k1, c_1, ewc, ↓reduceIte, if_true, if_false]; done) | (simp only [gc_k1]; simp only [c_1, ewc, ↓reduceIte, if_true, if_false]; done) | (simp [gc_k1, c_1, ewc, ↓reduceIte, if_true, if_false]; done)⟩, gh_hp hP9 ht⟩, hS.F ht⟩) hS.2.2 dX2_count_107)
    · skip
      refine lv_tableIn (x := nI 5) (off := 87) (tgt := 108) hx hb dX2_count_21 (by decide) (by decide) (by decide) (by decide) ?_
      refine lv_aload_n hx hb dX2_count_108 rfl (lv_at hl 0 rfl) ?_
      refine va_get (D := G.1) (ci := 2) (v := .ref (a 0)) (C := RX2) (T := TX2) (N := 3) hx hb hts (fun w9 h9 => List.mem_cons_of_mem _ (List.mem_append_left _ (List.mem_append_left _ (List.mem_append_left _ (List.mem_append_right _ h9))))) hown hK hP 0 rfl rfl 1 (by decide) (hts (.fieldLink RX2 21 "GlassHarp" "now" "LGlassHarp$Orchestra;") (List.mem_of_getElem? (i := 3) rfl)) (fun _ h9 => h9) rfl dX2_count_109 ?_
      refine va_getN (D := G.1) (ci := 0) (v := .int (o 13 0)) (C := RX0) (T := TX0) (N := 15) hx hb hts (fun w9 h9 => List.mem_cons_of_mem _ (List.mem_append_left _ (List.mem_append_left _ (List.mem_append_right _ h9)))) hown hK hP 1 rfl rfl 13 (by decide) (va_Nw.use rfl (hE.2.2 (RX2, 170, "GlassHarp$Orchestra", "inTune", "I", RX2) (List.mem_of_getElem? (i := 20) rfl))) (fun _ h9 => h9) rfl dX2_count_112 ?_
      refine W.widen (k := 1) (n := 6) (by omega) (by omega) ?_
      have hP9 := hP
      exact vx_ret (W.iret (v := o 13 0) hx hb hr (fun t9 ht hW => ⟨⟨o 13 0, (), rfl, ⟨by first | (simp only [gc_cl, c_1, ewc, ↓reduceIte, if_true, if_false]; done) | (simp only [gc_cl]; simp only [c_1, ewc, ↓reduceIte, if_true, if_false]; done) | (simp [gc_cl, c_1, ewc, ↓reduceIte, if_true, if_false]; done), by first | (simp only [gc_k1, c_1, ewc, ↓reduceIte, if_true, if_false]; done) | (simp only [gc_k1]; simp only [c_1, ewc, ↓reduceIte, if_true, if_false]; done) | (simp [gc_k1, c_1, ewc, ↓reduceIte, if_true, if_false]; done)⟩, gh_hp hP9 ht⟩, hS.F ht⟩) hS.2.2 dX2_count_115)
    · skip
      refine lv_tableIn (x := nI 6) (off := 95) (tgt := 116) hx hb dX2_count_21 (by decide) (by decide) (by decide) (by decide) ?_
      refine lv_aload_n hx hb dX2_count_116 rfl (lv_at hl 0 rfl) ?_
      refine va_get (D := G.1) (ci := 2) (v := .ref (a 0)) (C := RX2) (T := TX2) (N := 3) hx hb hts (fun w9 h9 => List.mem_cons_of_mem _ (List.mem_append_left _ (List.mem_append_left _ (List.mem_append_left _ (List.mem_append_right _ h9))))) hown hK hP 0 rfl rfl 1 (by decide) (hts (.fieldLink RX2 21 "GlassHarp" "now" "LGlassHarp$Orchestra;") (List.mem_of_getElem? (i := 3) rfl)) (fun _ h9 => h9) rfl dX2_count_117 ?_
      refine va_getN (D := G.1) (ci := 0) (v := .int (o 14 0)) (C := RX0) (T := TX0) (N := 15) hx hb hts (fun w9 h9 => List.mem_cons_of_mem _ (List.mem_append_left _ (List.mem_append_left _ (List.mem_append_right _ h9)))) hown hK hP 1 rfl rfl 14 (by decide) (va_Nw.use rfl (hE.2.2 (RX2, 173, "GlassHarp$Orchestra", "missed", "I", RX2) (List.mem_of_getElem? (i := 21) rfl))) (fun _ h9 => h9) rfl dX2_count_120 ?_
      refine W.widen (k := 1) (n := 6) (by omega) (by omega) ?_
      have hP9 := hP
      exact vx_ret (W.iret (v := o 14 0) hx hb hr (fun t9 ht hW => ⟨⟨o 14 0, (), rfl, ⟨by first | (simp only [gc_cl, c_1, ewc, ↓reduceIte, if_true, if_false]; done) | (simp only [gc_cl]; simp only [c_1, ewc, ↓reduceIte, if_true, if_false]; done) | (simp [gc_cl, c_1, ewc, ↓reduceIte, if_true, if_false]; done), by first | (simp only [gc_k1, c_1, ewc, ↓reduceIte, if_true, if_false]; done) | (simp only [gc_k1]; simp only [c_1, ewc, ↓reduceIte, if_true, if_false]; done) | (simp [gc_k1, c_1, ewc, ↓reduceIte, if_true, if_false]; done)⟩, gh_hp hP9 ht⟩, hS.F ht⟩) hS.2.2 dX2_count_123)
    · skip
      refine lv_tableIn (x := nI 7) (off := 103) (tgt := 124) hx hb dX2_count_21 (by decide) (by decide) (by decide) (by decide) ?_
      refine lv_aload_n hx hb dX2_count_124 rfl (lv_at hl 0 rfl) ?_
      refine va_get (D := G.1) (ci := 2) (v := .ref (a 0)) (C := RX2) (T := TX2) (N := 3) hx hb hts (fun w9 h9 => List.mem_cons_of_mem _ (List.mem_append_left _ (List.mem_append_left _ (List.mem_append_left _ (List.mem_append_right _ h9))))) hown hK hP 0 rfl rfl 1 (by decide) (hts (.fieldLink RX2 21 "GlassHarp" "now" "LGlassHarp$Orchestra;") (List.mem_of_getElem? (i := 3) rfl)) (fun _ h9 => h9) rfl dX2_count_125 ?_
      refine gh_ci (va_runVN (As := []) (rest := []) ⟨hx, hb, hml, hown, hts⟩ (c_X0_allAir l G a (b 5) o) ⟨va_cnB 0 hts gX2_count_X0_allAir_n176 rfl rfl rfl (hE.2.1 (RX2, 176, yX0_allAir, RX2) (List.mem_of_getElem? (i := 3) rfl)) (hts (.initialized RX0) (List.mem_of_getElem? (i := 10) rfl)) hdS_X0_allAir ⟨Nat.le_of_ble_eq_true rfl, Nat.le_of_ble_eq_true rfl⟩, (hts (.instanceMethod yX0_allAir) (List.mem_of_getElem? (i := 15) rfl)), (hts (.selects RX0 yX0_allAir yX0_allAir) (List.mem_of_getElem? (i := 16) rfl))⟩ (gh_rV hE (hP.sub (ws' := wO G a (b 5) o) [1, 2, 3, 4, 5, 6, 7, 8, 9, 10] rfl) (ci := 0) (q0 := 0) rfl rfl) rfl rfl hl.1 rfl (lv_room (Nat.le_of_ble_eq_true rfl)) dX2_count_128 ⟨Nat.le_of_ble_eq_true rfl, Nat.le_of_ble_eq_true rfl⟩) ?_
      refine W.widen (k := 1) (n := 6) (by omega) (by omega) ?_
      have hP9 := hP
      exact vx_ret (W.iret (v := gh_sm (o 8) 4) hx hb hr (fun t9 ht hW => ⟨⟨gh_sm (o 8) 4, (), rfl, ⟨by first | (simp only [gc_cl, c_1, ewc, ↓reduceIte, if_true, if_false]; done) | (simp only [gc_cl]; simp only [c_1, ewc, ↓reduceIte, if_true, if_false]; done) | (simp [gc_cl, c_1, ewc, ↓reduceIte, if_true, if_false]; done), by first | (simp only [gc_k1, c_1, ewc, ↓reduceIte, if_true, if_false]; done) | (simp only [gc_k1]; simp only [c_1, ewc, ↓reduceIte, if_true, if_false]; done) | (simp [gc_k1, c_1, ewc, ↓reduceIte, if_true, if_false]; done)⟩, gh_hp hP9 ht⟩, hS.F ht⟩) hS.2.2 dX2_count_131)
    · skip
      refine lv_tableOut (x := nI 8) (tgt := 132) hx hb dX2_count_21 (by decide) (by decide) ?_
      refine lv_aload_n hx hb dX2_count_132 rfl (lv_at hl 0 rfl) ?_
      refine va_get (D := G.1) (ci := 2) (v := .ref (a 0)) (C := RX2) (T := TX2) (N := 3) hx hb hts (fun w9 h9 => List.mem_cons_of_mem _ (List.mem_append_left _ (List.mem_append_left _ (List.mem_append_left _ (List.mem_append_right _ h9))))) hown hK hP 0 rfl rfl 1 (by decide) (hts (.fieldLink RX2 21 "GlassHarp" "now" "LGlassHarp$Orchestra;") (List.mem_of_getElem? (i := 3) rfl)) (fun _ h9 => h9) rfl dX2_count_133 ?_
      refine gh_ci (va_runVN (As := []) (rest := []) ⟨hx, hb, hml, hown, hts⟩ (c_X0_pairsBeating l G a (b 5) o n (hn) (hn16)) ⟨va_cnB 0 hts gX2_count_X0_pairsBeating_n179 rfl rfl rfl (hE.2.1 (RX2, 179, yX0_pairsBeating, RX2) (List.mem_of_getElem? (i := 4) rfl)) (hts (.initialized RX0) (List.mem_of_getElem? (i := 10) rfl)) hdS_X0_pairsBeating ⟨Nat.le_of_ble_eq_true rfl, Nat.le_of_ble_eq_true rfl⟩, (hts (.instanceMethod yX0_pairsBeating) (List.mem_of_getElem? (i := 19) rfl)), (hts (.selects RX0 yX0_pairsBeating yX0_pairsBeating) (List.mem_of_getElem? (i := 20) rfl))⟩ (gh_rV hE (hP.sub (ws' := wO G a (b 5) o) [1, 2, 3, 4, 5, 6, 7, 8, 9, 10] rfl) (ci := 0) (q0 := 0) rfl rfl) rfl rfl hl.1 rfl (lv_room (Nat.le_of_ble_eq_true rfl)) dX2_count_136 ⟨Nat.le_of_ble_eq_true rfl, Nat.le_of_ble_eq_true rfl⟩) ?_
      refine W.widen (k := 1) (n := 6) (by omega) (by omega) ?_
      have hP9 := hP
      exact vx_ret (W.iret (v := gh_sm (fun i => gh_cn (gh_ba o i) n) n / 2) hx hb hr (fun t9 ht hW => ⟨⟨gh_sm (fun i => gh_cn (gh_ba o i) n) n / 2, (), rfl, ⟨by first | (simp only [gc_cl, c_1, ewc, ↓reduceIte, if_true, if_false]; done) | (simp only [gc_cl]; simp only [c_1, ewc, ↓reduceIte, if_true, if_false]; done) | (simp [gc_cl, c_1, ewc, ↓reduceIte, if_true, if_false]; done), by first | (simp only [gc_k1, c_1, ewc, ↓reduceIte, if_true, if_false]; done) | (simp only [gc_k1]; simp only [c_1, ewc, ↓reduceIte, if_true, if_false]; done) | (simp [gc_k1, c_1, ewc, ↓reduceIte, if_true, if_false]; done)⟩, gh_hp hP9 ht⟩, hS.F ht⟩) hS.2.2 dX2_count_139)
  · skip
    obtain ⟨sa, hsa⟩ := hV.2.1 (158, "what is not 0 to 8") (List.mem_of_getElem? (i := 0) rfl)
    exact vx_throwS (A := A) (names := ["java/lang/RuntimeException", "java/lang/Exception"]) hx hb hfl hown gx_fit_O gx_fit_n (hts (.classLink RX2 54 "java/lang/IndexOutOfBoundsException") (List.mem_of_getElem? (i := 1) rfl)) (hts (.initialized "java/lang/IndexOutOfBoundsException") (List.mem_of_getElem? (i := 2) rfl)) hsa (vx_hat (fun w9 h9 => hts w9 ((fun w9 h9 => List.mem_cons_of_mem _ (List.mem_append_right _ h9)) w9 h9)) gx_bad_58 (vx_c (va_Nw.use rfl hV.1.2.2) (vx_c (va_Nw.use rfl hV.2.2.2.2.2.2.1) (vx_c (va_Nw.use rfl hV.2.2.2.2.2.2.2.1) (vx_c (va_Nw.use rfl hV.2.2.2.2.2.2.2.2) vx_n))))) gx_ot_58 hZ.1 hZ.2 hS (hl.1.trans hml.symm) dX2_count_10 dX2_count_13 dX2_count_14 dX2_count_16 dX2_count_19 (fun x9 h9 => (htab x9 h9).elim) (Nat.le_of_ble_eq_true rfl) (Nat.le_of_ble_eq_true rfl) (Nat.le_of_ble_eq_true rfl) (Nat.le_of_ble_eq_true rfl) hlocks (fun t9 ha9 h1 h2 => gx_x hP hS h1 h2 (⟨rfl, by first | (simp only [gc_k1, c_1, ↓reduceIte, if_true, if_false]; done) | (simp only [gc_k1]; simp only [c_1, ↓reduceIte, if_true, if_false]; done) | (simp [gc_k1, c_1, ↓reduceIte, if_true, if_false]; done)⟩)) hS.2.2 (Nat.le_of_ble_eq_true rfl) (Nat.le_of_ble_eq_true rfl)
set_option maxHeartbeats 4000000 in
set_option maxRecDepth 100000 in
theorem c_X2_needs (l : Launch) (hfl : l.stackTraces = false) (G : gh_G) (sz : Nat) (h : Nat) (a : Nat → Nat) (b : Nat → Nat) (d : Nat → Nat) (o : gh_B) (n : Nat) (y : Int32) (v : Int32) (hn : o 10 0 = nI n) (hn16 : n ≤ 16) : vx_Met l yX2_needs wsX2_needs ({ frames := 6, cells := 1, slots := 6, locals := 90 } : Room) (gx_w G [.ref h, .int y, .int v] ((wH h (b 5) (a 0) (d 0)) ++ (wO G a (b 5) o)) sz) (va_Qi (fun (r9 : Int32) (_ : Unit) => r9 = gh_fw o y.toNatClampNeg v ∧ gc_k3 (gh_rg y (o 10 0)) (gh_iw v 0 120) = 0) (fun _ t9 => va_P G.1 vwCl ((wH h (b 5) (a 0) (d 0)) ++ (wO G a (b 5) o)) t9.heap) (va_A ((wH h (b 5) (a 0) (d 0)) ++ (wO G a (b 5) o)) sz)) (vx_X (fun _ : Unit => True) (fun E9 _ t9 => ((E9 = gx_O ∧ gc_k3 (gh_rg y (o 10 0)) (gh_iw v 0 120) = 1) ∨ (E9 = gx_A ∧ gc_k3 (gh_rg y (o 10 0)) (gh_iw v 0 120) = 2)) ∧ va_P G.1 vwCl ((wH h (b 5) (a 0) (d 0)) ++ (wO G a (b 5) o)) t9.heap) (va_A ((wH h (b 5) (a 0) (d 0)) ++ (wO G a (b 5) o)) sz)) 1 6 (va_A ((wH h (b 5) (a 0) (d 0)) ++ (wO G a (b 5) o)) sz) := by
  refine vx_ofW (cc := cX2_needs) (maxL := 3) (ret := (some .int)) (by decide) rfl ?_
  intro p e s m args below meth c s₁ B hml htab hv
  obtain ⟨rfl, hsz, hP, hE, hD0, hV, hZ⟩ := hv
  have hx := B.exec
  have hb := B.bytes
  have hr := B.returns
  have hts := atoms_spec (ws := wsX2_needs) B.pre
  have hown : s.vm.findClass RX2 = some m.cls := findClass_of_methodNamed B.named
  have hlocks := B.notSynchronized
  have hK := hE.1
  subst hsz
  have hD := hD0.self (sz := s.heap.size)
  generalize hAe : va_A ((wH h (b 5) (a 0) (d 0)) ++ (wO G a (b 5) o)) s.heap.size = A at hD hZ ⊢
  have hA : ∀ q : Nat, s.heap.size ≤ q → A q := fun q h => by rw [← hAe]; exact Or.inr h
  have hS : va_S A s.heap s.heap [] := va_S.rf
  have hl := lv_entry ([.ref h, .int y, .int v]) (n := 3) (Nat.le_of_ble_eq_true rfl)
  rw [lg_entry_eq]
  generalize (lg_sl ([.ref h, .int y, .int v]) ++ List.replicate (3 - (lg_sl ([.ref h, .int y, .int v])).length) Slot.unset).toArray = ls at hl ⊢
  have hl : lv_has ls 3 [(0, .ref h), (1, .int y), (2, .int v)] := hl
  refine lv_aload_n hx hb dX2_needs_0 rfl (lv_at hl 0 rfl) ?_
  refine va_get (D := G.1) (ci := 2) (v := .ref (a 0)) (C := RX2) (T := TX2) (N := 3) hx hb hts (fun w9 h9 => List.mem_cons_of_mem _ (List.mem_append_left _ (List.mem_append_left _ (List.mem_append_left _ (List.mem_append_right _ h9))))) hown hK hP 0 rfl rfl 1 (by decide) (hts (.fieldLink RX2 21 "GlassHarp" "now" "LGlassHarp$Orchestra;") (List.mem_of_getElem? (i := 5) rfl)) (fun _ h9 => h9) rfl dX2_needs_1 ?_
  refine lv_iload_n hx hb dX2_needs_4 rfl (lv_at hl 1 rfl) ?_
  refine gh_ci (va_runVN (As := [.int y]) (rest := []) ⟨hx, hb, hml, hown, hts⟩ (c_X0_hasGlass l G a (b 5) o y) ⟨va_cnB 1 hts gX2_needs_X0_hasGlass_n50 rfl rfl rfl (hE.2.1 (RX2, 50, yX0_hasGlass, RX2) (List.mem_of_getElem? (i := 7) rfl)) (hts (.initialized RX0) (List.mem_of_getElem? (i := 7) rfl)) hdS_X0_hasGlass ⟨Nat.le_of_ble_eq_true rfl, Nat.le_of_ble_eq_true rfl⟩, (hts (.instanceMethod yX0_hasGlass) (List.mem_of_getElem? (i := 6) rfl)), (hts (.selects RX0 yX0_hasGlass yX0_hasGlass) (List.mem_of_getElem? (i := 8) rfl))⟩ (gh_rV hE (hP.sub (ws' := wO G a (b 5) o) [1, 2, 3, 4, 5, 6, 7, 8, 9, 10] rfl) (ci := 0) (q0 := 0) rfl rfl) rfl rfl hl.1 rfl (lv_room (Nat.le_of_ble_eq_true rfl)) dX2_needs_5 ⟨Nat.le_of_ble_eq_true rfl, Nat.le_of_ble_eq_true rfl⟩) ?_
  refine lv_if_ne (tgt := 21) hx hb dX2_needs_8 (by decide) (fun c_1 => ?_) (fun c_1 => ?_)
  · skip
    obtain ⟨k, hk, ek⟩ := gh_rg_k c_1 hn (Nat.lt_of_le_of_lt hn16 (by decide))
    have ekc : y.toNatClampNeg = k := by rw [ek, nI_clamp (Nat.lt_trans hk (Nat.lt_of_le_of_lt hn16 (by decide)))]
    refine lv_iload_n hx hb dX2_needs_21 rfl (lv_at hl 2 rfl) ?_
    refine lv_iconst (v := 0) hx hb dX2_needs_22 (by decide) ?_
    refine lv_bipush (v := 120) hx hb dX2_needs_23 (by decide) ?_
    refine gh_ci (va_runS (As := [.int v, .int 0, .int 120]) (rest := []) ⟨hx, hb, hml, hown, hts⟩ (c_X2_isWithin l G v 0 120) (va_cwS 3 hts gX2_needs_X2_isWithin rfl rfl rfl hdS_X2_isWithin ⟨Nat.le_of_ble_eq_true rfl, Nat.le_of_ble_eq_true rfl⟩) (gh_rS hE (fun k q h => by simp at h)) rfl rfl hl.1 rfl (lv_room (Nat.le_of_ble_eq_true rfl)) dX2_needs_25 ⟨Nat.le_of_ble_eq_true rfl, Nat.le_of_ble_eq_true rfl⟩) ?_
    refine lv_if_ne (tgt := 41) hx hb dX2_needs_28 (by decide) (fun c_2 => ?_) (fun c_2 => ?_)
    · skip
      refine lv_aload_n hx hb dX2_needs_41 rfl (lv_at hl 0 rfl) ?_
      refine va_get (D := G.1) (ci := 2) (v := .ref (a 0)) (C := RX2) (T := TX2) (N := 3) hx hb hts (fun w9 h9 => List.mem_cons_of_mem _ (List.mem_append_left _ (List.mem_append_left _ (List.mem_append_left _ (List.mem_append_right _ h9))))) hown hK hP 0 rfl rfl 1 (by decide) (hts (.fieldLink RX2 21 "GlassHarp" "now" "LGlassHarp$Orchestra;") (List.mem_of_getElem? (i := 5) rfl)) (fun _ h9 => h9) rfl dX2_needs_42 ?_
      refine lv_iload_n hx hb dX2_needs_45 rfl (lv_at hl 1 rfl) ?_
      refine gh_vv (y := nI k) (ek) ?_
      refine lv_iload_n hx hb dX2_needs_46 rfl (lv_at hl 2 rfl) ?_
      refine gh_ci (va_runVN (As := [.int (nI k), .int v]) (rest := []) ⟨hx, hb, hml, hown, hts⟩ (c_X0_fewestDropsFor l G a (b 5) o n k v (hn) (hn16) (hk)) ⟨va_cnB 2 hts gX2_needs_X0_fewestDropsFor_n184 rfl rfl rfl (hE.2.1 (RX2, 184, yX0_fewestDropsFor, RX2) (List.mem_of_getElem? (i := 18) rfl)) (hts (.initialized RX0) (List.mem_of_getElem? (i := 7) rfl)) hdS_X0_fewestDropsFor ⟨Nat.le_of_ble_eq_true rfl, Nat.le_of_ble_eq_true rfl⟩, (hts (.instanceMethod yX0_fewestDropsFor) (List.mem_of_getElem? (i := 15) rfl)), (hts (.selects RX0 yX0_fewestDropsFor yX0_fewestDropsFor) (List.mem_of_getElem? (i := 16) rfl))⟩ (gh_rV hE (hP.sub (ws' := wO G a (b 5) o) [1, 2, 3, 4, 5, 6, 7, 8, 9, 10] rfl) (ci := 0) (q0 := 0) rfl rfl) rfl rfl hl.1 rfl (lv_room (Nat.le_of_ble_eq_true rfl)) dX2_needs_47 ⟨Nat.le_of_ble_eq_true rfl, Nat.le_of_ble_eq_true rfl⟩) ?_
      refine W.widen (k := 1) (n := 6) (by omega) (by omega) ?_
      have hP9 := hP
      exact vx_ret (W.iret (v := gh_fw o k v) hx hb hr (fun t9 ht hW => ⟨⟨gh_fw o k v, (), rfl, ⟨by first | (simp only [c_1, ekc, c_2, ↓reduceIte, if_true, if_false]; done) | (simp only [c_1, ekc, c_2, ↓reduceIte, if_true, if_false]; rfl) | (simp [c_1, ekc, c_2, ↓reduceIte, if_true, if_false]; done), by first | (simp only [gc_k3, c_1, ekc, c_2, ↓reduceIte, if_true, if_false]; done) | (simp only [gc_k3]; simp only [c_1, ekc, c_2, ↓reduceIte, if_true, if_false]; done) | (simp [gc_k3, c_1, ekc, c_2, ↓reduceIte, if_true, if_false]; done)⟩, gh_hp hP9 ht⟩, hS.F ht⟩) hS.2.2 dX2_needs_50)
    · skip
      obtain ⟨sa, hsa⟩ := hV.2.1 (182, "tone is not 0 to 120") (List.mem_of_getElem? (i := 19) rfl)
      exact vx_throwS (A := A) (names := ["java/lang/RuntimeException", "java/lang/Exception"]) hx hb hfl hown gx_fit_A gx_fit_n (hts (.classLink RX2 32 "java/lang/IllegalArgumentException") (List.mem_of_getElem? (i := 3) rfl)) (hts (.initialized "java/lang/IllegalArgumentException") (List.mem_of_getElem? (i := 4) rfl)) hsa (vx_hat (fun w9 h9 => hts w9 ((fun w9 h9 => List.mem_cons_of_mem _ (List.mem_append_right _ h9)) w9 h9)) gx_bad_36 (vx_c (va_Nw.use rfl hV.1.1) (vx_c (va_Nw.use rfl hV.2.2.2.2.2.2.1) (vx_c (va_Nw.use rfl hV.2.2.2.2.2.2.2.1) (vx_c (va_Nw.use rfl hV.2.2.2.2.2.2.2.2) vx_n))))) gx_ot_36 hZ.1 hZ.2 hS (hl.1.trans hml.symm) dX2_needs_31 dX2_needs_34 dX2_needs_35 dX2_needs_37 dX2_needs_40 (fun x9 h9 => (htab x9 h9).elim) (Nat.le_of_ble_eq_true rfl) (Nat.le_of_ble_eq_true rfl) (Nat.le_of_ble_eq_true rfl) (Nat.le_of_ble_eq_true rfl) hlocks (fun t9 ha9 h1 h2 => gx_x hP hS h1 h2 (Or.inr (⟨rfl, by first | (simp only [gc_k3, c_1, ekc, c_2, ↓reduceIte, if_true, if_false]; done) | (simp only [gc_k3]; simp only [c_1, ekc, c_2, ↓reduceIte, if_true, if_false]; done) | (simp [gc_k3, c_1, ekc, c_2, ↓reduceIte, if_true, if_false]; done)⟩))) hS.2.2 (Nat.le_of_ble_eq_true rfl) (Nat.le_of_ble_eq_true rfl)
  · skip
    obtain ⟨sa, hsa⟩ := hV.2.1 (56, "no such glass") (List.mem_of_getElem? (i := 7) rfl)
    exact vx_throwS (A := A) (names := ["java/lang/RuntimeException", "java/lang/Exception"]) hx hb hfl hown gx_fit_O gx_fit_n (hts (.classLink RX2 54 "java/lang/IndexOutOfBoundsException") (List.mem_of_getElem? (i := 1) rfl)) (hts (.initialized "java/lang/IndexOutOfBoundsException") (List.mem_of_getElem? (i := 2) rfl)) hsa (vx_hat (fun w9 h9 => hts w9 ((fun w9 h9 => List.mem_cons_of_mem _ (List.mem_append_left _ (List.mem_append_right _ h9))) w9 h9)) gx_bad_58 (vx_c (va_Nw.use rfl hV.1.2.2) (vx_c (va_Nw.use rfl hV.2.2.2.2.2.2.1) (vx_c (va_Nw.use rfl hV.2.2.2.2.2.2.2.1) (vx_c (va_Nw.use rfl hV.2.2.2.2.2.2.2.2) vx_n))))) gx_ot_58 hZ.1 hZ.2 hS (hl.1.trans hml.symm) dX2_needs_11 dX2_needs_14 dX2_needs_15 dX2_needs_17 dX2_needs_20 (fun x9 h9 => (htab x9 h9).elim) (Nat.le_of_ble_eq_true rfl) (Nat.le_of_ble_eq_true rfl) (Nat.le_of_ble_eq_true rfl) (Nat.le_of_ble_eq_true rfl) hlocks (fun t9 ha9 h1 h2 => gx_x hP hS h1 h2 (Or.inl ⟨rfl, by first | (simp only [gc_k3, c_1, ↓reduceIte, if_true, if_false]; done) | (simp only [gc_k3]; simp only [c_1, ↓reduceIte, if_true, if_false]; done) | (simp [gc_k3, c_1, ↓reduceIte, if_true, if_false]; done)⟩)) hS.2.2 (Nat.le_of_ble_eq_true rfl) (Nat.le_of_ble_eq_true rfl)
