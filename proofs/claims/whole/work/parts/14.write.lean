set_option maxHeartbeats 4000000 in
set_option maxRecDepth 100000 in
theorem c_X1_beatAt (l : Launch) (G : gh_G) (b : Nat → Nat) (z : gh_B) (x : Int32)  : Met l yX1_beatAt wsX1_beatAt ({ frames := 0, cells := 0, slots := 0, locals := 0 } : Room) (gh_r G [.ref (b 5), .int x] (wS G b z)) (vp_Si (fun r9 => r9 = gh_at z x)) 0 0 (fun _ => False) := by
  refine Met.ofW (cc := cX1_beatAt) (maxL := 2) (ret := (some .int)) (by decide) rfl ?_
  intro p e s m args below meth c s₁ B hml hv
  obtain ⟨rfl, hP, hE⟩ := hv
  have hx := B.exec
  have hb := B.bytes
  have hr := B.returns
  have hts := atoms_spec (ws := wsX1_beatAt) B.pre
  have hown : s.vm.findClass RX1 = some m.cls := findClass_of_methodNamed B.named
  have hlocks := B.notSynchronized
  have hK := hE.1
  have hl := lv_entry ([.ref (b 5), .int x]) (n := 2) (Nat.le_of_ble_eq_true rfl)
  rw [lg_entry_eq]
  generalize (lg_sl ([.ref (b 5), .int x]) ++ List.replicate (2 - (lg_sl ([.ref (b 5), .int x])).length) Slot.unset).toArray = ls at hl ⊢
  have hl : lv_has ls 2 [(0, .ref (b 5)), (1, .int x)] := hl
  refine lv_aload_n hx hb dX1_beatAt_0 rfl (lv_at hl 0 rfl) ?_
  refine va_get (D := G.1) (ci := 1) (v := .int (z 4 0)) (C := RX1) (T := TX1) (N := 5) hx hb hts (fun w9 h9 => List.mem_cons_of_mem _ (List.mem_append_right _ h9)) hown hK hP 0 rfl rfl 4 (by decide) (hts (.fieldLink RX1 25 "GlassHarp$Score" "length" "I") (List.mem_of_getElem? (i := 1) rfl)) (fun _ h9 => h9) rfl dX1_beatAt_1 ?_
  refine lv_if_le (tgt := 16) hx hb dX1_beatAt_4 (by decide) (fun c_1 => ?_) (fun c_1 => ?_)
  · skip
    refine lv_iconst (v := 0) hx hb dX1_beatAt_16 (by decide) ?_
    exact W.iret (v := 0) hx hb hr (fun t9 ht hW => ⟨0, rfl, by first | (simp only [gh_at, c_1, ↓reduceIte, if_true, if_false]; done) | (simp only [gh_at]; simp only [c_1, ↓reduceIte, if_true, if_false]; done) | (simp [gh_at, c_1, ↓reduceIte, if_true, if_false]; done), ht⟩) (fun q hq => absurd hq List.not_mem_nil) dX1_beatAt_17
  · skip
    refine lv_iload_n hx hb dX1_beatAt_7 rfl (lv_at hl 1 rfl) ?_
    refine lv_aload_n hx hb dX1_beatAt_8 rfl (lv_at hl 0 rfl) ?_
    refine va_get (D := G.1) (ci := 1) (v := .int (z 4 0)) (C := RX1) (T := TX1) (N := 5) hx hb hts (fun w9 h9 => List.mem_cons_of_mem _ (List.mem_append_right _ h9)) hown hK hP 0 rfl rfl 4 (by decide) (hts (.fieldLink RX1 25 "GlassHarp$Score" "length" "I") (List.mem_of_getElem? (i := 1) rfl)) (fun _ h9 => h9) rfl dX1_beatAt_9 ?_
    refine lv_irem hx hb dX1_beatAt_12 (fun h9 => c_1 (by rw [h9]; decide)) ?_
    refine lv_goto (tgt := 17) hx hb dX1_beatAt_13 (by decide) ?_
    exact W.iret (v := x - x / (z 4 0) * (z 4 0)) hx hb hr (fun t9 ht hW => ⟨x - x / (z 4 0) * (z 4 0), rfl, by first | (simp only [gh_at, c_1, ↓reduceIte, if_true, if_false]; done) | (simp only [gh_at]; simp only [c_1, ↓reduceIte, if_true, if_false]; done) | (simp [gh_at, c_1, ↓reduceIte, if_true, if_false]; done), ht⟩) (fun q hq => absurd hq List.not_mem_nil) dX1_beatAt_17
set_option maxHeartbeats 4000000 in
set_option maxRecDepth 100000 in
theorem c_X1_write (l : Launch) (G : gh_G) (sz : Nat) (b : Nat → Nat) (z : gh_B) (nn : Nat) (x : Int32) (t : Int32) (f : Int32) (hz : z 3 0 = nI nn) (hz32 : nn ≤ 32) : Met l yX1_write wsX1_write ({ frames := 0, cells := 0, slots := 0, locals := 0 } : Room) (gh_w G [.ref (b 5), .int x, .int t, .int f] (wS G b z) sz) (va_Qi (fun (r9 : Int32) (_ : Unit) => r9 = if nI nn < 32 then 1 else 0) (fun _ t9 => va_P G.1 vwCl (wS G b (gh_wr z nn x t f)) t9.heap) (va_A (wS G b z) sz)) 0 0 (va_A (wS G b z) sz) := by
  refine Met.ofW (cc := cX1_write) (maxL := 4) (ret := (some .boolean)) (by decide) rfl ?_
  intro p e s m args below meth c s₁ B hml hv
  obtain ⟨rfl, hsz, hP, hE, hD0⟩ := hv
  have hx := B.exec
  have hb := B.bytes
  have hr := B.returns
  have hts := atoms_spec (ws := wsX1_write) B.pre
  have hown : s.vm.findClass RX1 = some m.cls := findClass_of_methodNamed B.named
  have hlocks := B.notSynchronized
  have hK := hE.1
  subst hsz
  have hD := hD0.self (sz := s.heap.size)
  generalize hAe : va_A (wS G b z) s.heap.size = A at hD ⊢
  have hA : ∀ q : Nat, s.heap.size ≤ q → A q := fun q h => by rw [← hAe]; exact Or.inr h
  have hS : va_S A s.heap s.heap [] := va_S.rf
  have hl := lv_entry ([.ref (b 5), .int x, .int t, .int f]) (n := 4) (Nat.le_of_ble_eq_true rfl)
  rw [lg_entry_eq]
  generalize (lg_sl ([.ref (b 5), .int x, .int t, .int f]) ++ List.replicate (4 - (lg_sl ([.ref (b 5), .int x, .int t, .int f])).length) Slot.unset).toArray = ls at hl ⊢
  have hl : lv_has ls 4 [(0, .ref (b 5)), (1, .int x), (2, .int t), (3, .int f)] := hl
  refine lv_aload_n hx hb dX1_write_0 rfl (lv_at hl 0 rfl) ?_
  refine va_get (D := G.1) (ci := 1) (v := .int (z 3 0)) (C := RX1) (T := TX1) (N := 5) hx hb hts (fun w9 h9 => List.mem_cons_of_mem _ (List.mem_append_right _ h9)) hown hK hP 0 rfl rfl 3 (by decide) (hts (.fieldLink RX1 21 "GlassHarp$Score" "notes" "I") (List.mem_of_getElem? (i := 1) rfl)) (fun _ h9 => h9) rfl dX1_write_1 ?_
  refine gh_vv (y := nI nn) (hz) ?_
  refine lv_bipush (v := 32) hx hb dX1_write_4 (by decide) ?_
  refine lv_icmp_lt (tgt := 11) hx hb dX1_write_6 (by decide) (fun c_1 => ?_) (fun c_1 => ?_)
  · skip
    have hnn : nn < 32 := gh_lt_n c_1 rfl (Nat.lt_of_le_of_lt hz32 (by decide)) (by decide)
    refine lv_aload_n hx hb dX1_write_11 rfl (lv_at hl 0 rfl) ?_
    refine va_get (D := G.1) (ci := 1) (v := .ref (b 0)) (C := RX1) (T := TX1) (N := 5) hx hb hts (fun w9 h9 => List.mem_cons_of_mem _ (List.mem_append_right _ h9)) hown hK hP 0 rfl rfl 0 (by decide) (hts (.fieldLink RX1 9 "GlassHarp$Score" "beats" "[I") (List.mem_of_getElem? (i := 2) rfl)) (fun _ h9 => h9) rfl dX1_write_12 ?_
    refine lv_aload_n hx hb dX1_write_15 rfl (lv_at hl 0 rfl) ?_
    refine va_get (D := G.1) (ci := 1) (v := .int (z 3 0)) (C := RX1) (T := TX1) (N := 5) hx hb hts (fun w9 h9 => List.mem_cons_of_mem _ (List.mem_append_right _ h9)) hown hK hP 0 rfl rfl 3 (by decide) (hts (.fieldLink RX1 21 "GlassHarp$Score" "notes" "I") (List.mem_of_getElem? (i := 1) rfl)) (fun _ h9 => h9) rfl dX1_write_16 ?_
    refine gh_vv (y := nI nn) (hz) ?_
    refine lv_iload_n hx hb dX1_write_19 rfl (lv_at hl 1 rfl) ?_
    refine gh_is (f := z 0) (ws' := wS G b (gh_st z 0 (upd (z 0) nn x))) hx hb hK hP hD hS 1 0 rfl rfl nn (rfl) (by omega) (by decide) dX1_write_20 rfl (fun H locs hP hD hS => ?_)
    refine lv_aload_n hx hb dX1_write_21 rfl (lv_at hl 0 rfl) ?_
    refine va_get (D := G.1) (ci := 1) (v := .ref (b 1)) (C := RX1) (T := TX1) (N := 5) hx hb hts (fun w9 h9 => List.mem_cons_of_mem _ (List.mem_append_right _ h9)) hown hK hP 0 rfl rfl 1 (by decide) (hts (.fieldLink RX1 15 "GlassHarp$Score" "tones" "[I") (List.mem_of_getElem? (i := 3) rfl)) (fun _ h9 => h9) rfl dX1_write_22 ?_
    refine lv_aload_n hx hb dX1_write_25 rfl (lv_at hl 0 rfl) ?_
    refine va_get (D := G.1) (ci := 1) (v := .int (z 3 0)) (C := RX1) (T := TX1) (N := 5) hx hb hts (fun w9 h9 => List.mem_cons_of_mem _ (List.mem_append_right _ h9)) hown hK hP 0 rfl rfl 3 (by decide) (hts (.fieldLink RX1 21 "GlassHarp$Score" "notes" "I") (List.mem_of_getElem? (i := 1) rfl)) (fun _ h9 => h9) rfl dX1_write_26 ?_
    refine gh_vv (y := nI nn) (hz) ?_
    refine lv_iload_n hx hb dX1_write_29 rfl (lv_at hl 2 rfl) ?_
    refine gh_is (f := z 1) (ws' := wS G b (gh_st (gh_st z 0 (upd (z 0) nn x)) 1 (upd (z 1) nn t))) hx hb hK hP hD hS 2 0 rfl rfl nn (rfl) (by omega) (by decide) dX1_write_30 rfl (fun H locs hP hD hS => ?_)
    refine lv_aload_n hx hb dX1_write_31 rfl (lv_at hl 0 rfl) ?_
    refine va_get (D := G.1) (ci := 1) (v := .ref (b 2)) (C := RX1) (T := TX1) (N := 5) hx hb hts (fun w9 h9 => List.mem_cons_of_mem _ (List.mem_append_right _ h9)) hown hK hP 0 rfl rfl 2 (by decide) (hts (.fieldLink RX1 18 "GlassHarp$Score" "forces" "[I") (List.mem_of_getElem? (i := 4) rfl)) (fun _ h9 => h9) rfl dX1_write_32 ?_
    refine lv_aload_n hx hb dX1_write_35 rfl (lv_at hl 0 rfl) ?_
    refine va_get (D := G.1) (ci := 1) (v := .int (z 3 0)) (C := RX1) (T := TX1) (N := 5) hx hb hts (fun w9 h9 => List.mem_cons_of_mem _ (List.mem_append_right _ h9)) hown hK hP 0 rfl rfl 3 (by decide) (hts (.fieldLink RX1 21 "GlassHarp$Score" "notes" "I") (List.mem_of_getElem? (i := 1) rfl)) (fun _ h9 => h9) rfl dX1_write_36 ?_
    refine gh_vv (y := nI nn) (hz) ?_
    refine lv_iload_n hx hb dX1_write_39 rfl (lv_at hl 3 rfl) ?_
    refine gh_is (f := z 2) (ws' := wS G b (gh_st (gh_st (gh_st z 0 (upd (z 0) nn x)) 1 (upd (z 1) nn t)) 2 (upd (z 2) nn f))) hx hb hK hP hD hS 3 0 rfl rfl nn (rfl) (by omega) (by decide) dX1_write_40 rfl (fun H locs hP hD hS => ?_)
    refine lv_aload_n hx hb dX1_write_41 rfl (lv_at hl 0 rfl) ?_
    refine lv_dup hx hb dX1_write_42 rfl ?_
    refine va_get (D := G.1) (ci := 1) (v := .int (z 3 0)) (C := RX1) (T := TX1) (N := 5) hx hb hts (fun w9 h9 => List.mem_cons_of_mem _ (List.mem_append_right _ h9)) hown hK hP 0 rfl rfl 3 (by decide) (hts (.fieldLink RX1 21 "GlassHarp$Score" "notes" "I") (List.mem_of_getElem? (i := 1) rfl)) (fun _ h9 => h9) rfl dX1_write_43 ?_
    refine gh_vv (y := nI nn) (hz) ?_
    refine lv_iconst (v := 1) hx hb dX1_write_46 (by decide) ?_
    refine lv_iadd hx hb dX1_write_47 ?_
    refine gh_vv (y := nI (nn + 1)) (nI_1 nn) ?_
    refine va_put (D := G.1) (ci := 1) (v := .int (nI (nn + 1))) (ty := .int) (C := RX1) (T := TX1) (N := 5) hx hb hts (fun w9 h9 => List.mem_cons_of_mem _ (List.mem_append_right _ h9)) tyX1 tyX1_ok nmX1 hown hK hP hD hS 0 rfl rfl 3 (by decide) (hts (.fieldLink RX1 21 "GlassHarp$Score" "notes" "I") (List.mem_of_getElem? (i := 1) rfl)) (fun _ h9 => h9) rfl (tyX1_ok 3 (by decide)) rfl rfl (Nat.le_of_ble_eq_true rfl) dX1_write_48 (fun H locs hP hD hS => ?_)
    have hP : va_P G.1 vwCl (wS G b (gh_st (gh_st (gh_st (gh_st z 0 (upd (z 0) nn x)) 1 (upd (z 1) nn t)) 2 (upd (z 2) nn f)) 3 (fun _ => nI (nn + 1)))) H := hP
    have hD : va_D A (wS G b (gh_st (gh_st (gh_st (gh_st z 0 (upd (z 0) nn x)) 1 (upd (z 1) nn t)) 2 (upd (z 2) nn f)) 3 (fun _ => nI (nn + 1)))) := hD
    refine lv_iconst (v := 1) hx hb dX1_write_51 (by decide) ?_
    have hP9 : va_P G.1 vwCl (wS G b (gh_wr z nn x t f)) H := by
      have e9 : gh_st (gh_st (gh_st (gh_st z 0 (upd (z 0) nn x)) 1 (upd (z 1) nn t)) 2 (upd (z 2) nn f)) 3 (fun _ => nI (nn + 1)) = gh_wr z nn x t f := by first | (simp only [gh_wr, c_1, ↓reduceIte, if_true, if_false]; done) | (simp only [gh_wr]; simp only [c_1, ↓reduceIte, if_true, if_false]; done) | (simp [gh_wr, c_1, ↓reduceIte, if_true, if_false]; done)
      rw [← e9]
      exact hP
    exact W.zret (v := 1) hx hb hr (by decide) (fun t9 ht hW => ⟨⟨1, (), rfl, by first | (simp only [gh_wr, c_1, ↓reduceIte, if_true, if_false]; done) | (simp only [gh_wr]; simp only [c_1, ↓reduceIte, if_true, if_false]; done) | (simp [gh_wr, c_1, ↓reduceIte, if_true, if_false]; done), gh_hp hP9 ht⟩, hS.F ht⟩) hS.2.2 dX1_write_52
  · skip
    refine lv_iconst (v := 0) hx hb dX1_write_9 (by decide) ?_
    have hP9 : va_P G.1 vwCl (wS G b (gh_wr z nn x t f)) s.heap := by
      have e9 : z = gh_wr z nn x t f := by first | (simp only [gh_wr, c_1, ↓reduceIte, if_true, if_false]; done) | (simp only [gh_wr]; simp only [c_1, ↓reduceIte, if_true, if_false]; done) | (simp [gh_wr, c_1, ↓reduceIte, if_true, if_false]; done)
      rw [← e9]
      exact hP
    exact W.zret (v := 0) hx hb hr (by decide) (fun t9 ht hW => ⟨⟨0, (), rfl, by first | (simp only [gh_wr, c_1, ↓reduceIte, if_true, if_false]; done) | (simp only [gh_wr]; simp only [c_1, ↓reduceIte, if_true, if_false]; done) | (simp [gh_wr, c_1, ↓reduceIte, if_true, if_false]; done), gh_hp hP9 ht⟩, hS.F ht⟩) hS.2.2 dX1_write_10
set_option maxHeartbeats 4000000 in
set_option maxRecDepth 100000 in
theorem c_X1_takeOut (l : Launch) (G : gh_G) (sz : Nat) (b : Nat → Nat) (z : gh_B) (nn : Nat) (k : Nat) (hz : z 3 0 = nI nn) (hz32 : nn ≤ 32) (hk : k < nn) : Met l yX1_takeOut wsX1_takeOut ({ frames := 1, cells := 0, slots := 0, locals := 21 } : Room) (gh_w G [.ref (b 5), .int (nI k)] (wS G b z) sz) (va_Qv (fun _ : Unit => True) (fun _ t9 => va_P G.1 vwCl (wS G b (gh_st (gh_sh z k (nn - 1)) 3 (fun _ => nI (nn - 1)))) t9.heap) (va_A (wS G b z) sz)) 0 0 (va_A (wS G b z) sz) := by
  refine Met.ofW (cc := cX1_takeOut) (maxL := 3) (ret := none) (by decide) rfl ?_
  intro p e s m args below meth c s₁ B hml hv
  obtain ⟨rfl, hsz, hP, hE, hD0⟩ := hv
  have hx := B.exec
  have hb := B.bytes
  have hr := B.returns
  have hts := atoms_spec (ws := wsX1_takeOut) B.pre
  have hown : s.vm.findClass RX1 = some m.cls := findClass_of_methodNamed B.named
  have hlocks := B.notSynchronized
  have hK := hE.1
  subst hsz
  have hD := hD0.self (sz := s.heap.size)
  generalize hAe : va_A (wS G b z) s.heap.size = A at hD ⊢
  have hA : ∀ q : Nat, s.heap.size ≤ q → A q := fun q h => by rw [← hAe]; exact Or.inr h
  have hS : va_S A s.heap s.heap [] := va_S.rf
  have hl := lv_entry ([.ref (b 5), .int (nI k)]) (n := 3) (Nat.le_of_ble_eq_true rfl)
  rw [lg_entry_eq]
  generalize (lg_sl ([.ref (b 5), .int (nI k)]) ++ List.replicate (3 - (lg_sl ([.ref (b 5), .int (nI k)])).length) Slot.unset).toArray = ls at hl ⊢
  have hl : lv_has ls 3 [(0, .ref (b 5)), (1, .int (nI k))] := hl
  refine lv_aload_n hx hb dX1_takeOut_0 rfl (lv_at hl 0 rfl) ?_
  refine lv_iload_n hx hb dX1_takeOut_1 rfl (lv_at hl 1 rfl) ?_
  refine gh_ci (va_runV (As := [.int (nI k)]) (rest := []) ⟨hx, hb, hml, hown, hts⟩ (c_X1_hasNote l G b z (nI k)) (cwV 1 hts gX1_takeOut_X1_hasNote rfl rfl rfl ⟨rfl, hdS_X1_hasNote⟩ ⟨Nat.le_of_ble_eq_true rfl, Nat.le_of_ble_eq_true rfl⟩) (gh_rV hE hP (ci := 1) (q0 := 0) rfl rfl) rfl rfl hl.1 rfl (lv_room (Nat.le_of_ble_eq_true rfl)) dX1_takeOut_2 ⟨Nat.le_of_ble_eq_true rfl, Nat.le_of_ble_eq_true rfl⟩) ?_
  refine gh_vv (y := 1) (gh_rg_1 hz (Nat.lt_of_le_of_lt hz32 (by decide)) hk) ?_
  refine lv_if_ne (tgt := 9) hx hb dX1_takeOut_5 (by decide) (fun c_1 => ?_) (fun c_1 => absurd c_1 (by decide))
  refine lv_iload_n hx hb dX1_takeOut_9 rfl (lv_at hl 1 rfl) ?_
  refine lv_istore_n (lv' := [(2, .int (nI k)), (0, .ref (b 5)), (1, .int (nI k))]) hx hb dX1_takeOut_10 rfl hl (by decide) rfl (fun ls hl => ?_)
  have J11 : ∀ (B : gh_B), (B = gh_sh z k k) → (B 3 0 = nI nn) → ∀ (H : Heap) (locs : List Loc), va_P G.1 vwCl (wS G b B) H → va_D A (wS G b B) → va_S A s.heap H locs → ∀ (ls : Array Slot), lv_has ls 3 [(0, .ref (b 5)), (1, .int (nI k)), (2, .int (nI k))] → W p l e (headSpec wsX1_takeOut ({ frames := 1, cells := 0, slots := 0, locals := 21 } : Room)).room s m ([.ref (b 5), .int (nI k)] : List Value).toArray below meth c H locs 0 0 (MQ below (va_Qv (fun _ : Unit => True) (fun _ t9 => va_P G.1 vwCl (wS G b (gh_st (gh_sh z k (nn - 1)) 3 (fun _ => nI (nn - 1)))) t9.heap) A) ([.ref (b 5), .int (nI k)] : List Value).toArray s 0 0 A) (F0 m 11 ls []) := by
    refine gh_loop (n := (nn - 1)) (i0 := k) (by omega) (P := fun i => ∀ (B : gh_B), (B = gh_sh z k i) → (B 3 0 = nI nn) → ∀ (H : Heap) (locs : List Loc), va_P G.1 vwCl (wS G b B) H → va_D A (wS G b B) → va_S A s.heap H locs → ∀ (ls : Array Slot), lv_has ls 3 [(0, .ref (b 5)), (1, .int (nI k)), (2, .int (nI i))] → W p l e (headSpec wsX1_takeOut ({ frames := 1, cells := 0, slots := 0, locals := 21 } : Room)).room s m ([.ref (b 5), .int (nI k)] : List Value).toArray below meth c H locs 0 0 (MQ below (va_Qv (fun _ : Unit => True) (fun _ t9 => va_P G.1 vwCl (wS G b (gh_st (gh_sh z k (nn - 1)) 3 (fun _ => nI (nn - 1)))) t9.heap) A) ([.ref (b 5), .int (nI k)] : List Value).toArray s 0 0 A) (F0 m 11 ls [])) ?_ ?_
    · skip
      intro B EB hB H locs hP hD hS ls hl
      refine lv_iload_n hx hb dX1_takeOut_11 rfl (lv_at hl 2 rfl) ?_
      refine lv_iconst (v := 1) hx hb dX1_takeOut_12 (by decide) ?_
      refine lv_iadd hx hb dX1_takeOut_13 ?_
      refine gh_vv (y := nI (nn - 1 + 1)) (nI_1 (nn - 1)) ?_
      refine lv_aload_n hx hb dX1_takeOut_14 rfl (lv_at hl 0 rfl) ?_
      refine va_get (D := G.1) (ci := 1) (v := .int (B 3 0)) (C := RX1) (T := TX1) (N := 5) hx hb hts (fun w9 h9 => List.mem_cons_of_mem _ (List.mem_append_right _ h9)) hown hK hP 0 rfl rfl 3 (by decide) (hts (.fieldLink RX1 21 "GlassHarp$Score" "notes" "I") (List.mem_of_getElem? (i := 1) rfl)) (fun _ h9 => h9) rfl dX1_takeOut_15 ?_
      refine gh_vv (y := nI nn) (hB) ?_
      refine lv_icmp_ge (tgt := 69) hx hb dX1_takeOut_18 (by decide) (fun c_2 => ?_) (fun c_2 => absurd (nI_le (by omega) (by omega)) c_2)
      refine lv_aload_n hx hb dX1_takeOut_69 rfl (lv_at hl 0 rfl) ?_
      refine lv_dup hx hb dX1_takeOut_70 rfl ?_
      refine va_get (D := G.1) (ci := 1) (v := .int (B 3 0)) (C := RX1) (T := TX1) (N := 5) hx hb hts (fun w9 h9 => List.mem_cons_of_mem _ (List.mem_append_right _ h9)) hown hK hP 0 rfl rfl 3 (by decide) (hts (.fieldLink RX1 21 "GlassHarp$Score" "notes" "I") (List.mem_of_getElem? (i := 1) rfl)) (fun _ h9 => h9) rfl dX1_takeOut_71 ?_
      refine gh_vv (y := nI nn) (hB) ?_
      refine lv_iconst (v := 1) hx hb dX1_takeOut_74 (by decide) ?_
      refine lv_isub hx hb dX1_takeOut_75 ?_
      refine gh_vv (y := nI (nn - 1)) (pk_sub (a := nn) (b := 1) (by omega)) ?_
      refine va_put (D := G.1) (ci := 1) (v := .int (nI (nn - 1))) (ty := .int) (C := RX1) (T := TX1) (N := 5) hx hb hts (fun w9 h9 => List.mem_cons_of_mem _ (List.mem_append_right _ h9)) tyX1 tyX1_ok nmX1 hown hK hP hD hS 0 rfl rfl 3 (by decide) (hts (.fieldLink RX1 21 "GlassHarp$Score" "notes" "I") (List.mem_of_getElem? (i := 1) rfl)) (fun _ h9 => h9) rfl (tyX1_ok 3 (by decide)) rfl rfl (Nat.le_of_ble_eq_true rfl) dX1_takeOut_76 (fun H locs hP hD hS => ?_)
      have hP : va_P G.1 vwCl (wS G b (gh_st B 3 (fun _ => nI (nn - 1)))) H := hP
      have hD : va_D A (wS G b (gh_st B 3 (fun _ => nI (nn - 1)))) := hD
      have hP9 : va_P G.1 vwCl (wS G b (gh_st (gh_sh z k (nn - 1)) 3 (fun _ => nI (nn - 1)))) H := by
        have e9 : gh_st B 3 (fun _ => nI (nn - 1)) = gh_st (gh_sh z k (nn - 1)) 3 (fun _ => nI (nn - 1)) := by first | (simp only [← EB, c_1, c_2, ↓reduceIte, if_true, if_false]; done) | (simp only [← EB]; simp only [c_1, c_2, ↓reduceIte, if_true, if_false]; done) | (simp [← EB, c_1, c_2, ↓reduceIte, if_true, if_false]; done)
        rw [← e9]
        exact hP
      exact W.vret hx hb hr (fun t9 ht hW => ⟨⟨(), rfl, trivial, gh_hp hP9 ht⟩, hS.F ht⟩) hS.2.2 dX1_takeOut_79
    · intro i hi_lo hi ih
      intro B EB hB H locs hP hD hS ls hl
      refine lv_iload_n hx hb dX1_takeOut_11 rfl (lv_at hl 2 rfl) ?_
      refine lv_iconst (v := 1) hx hb dX1_takeOut_12 (by decide) ?_
      refine lv_iadd hx hb dX1_takeOut_13 ?_
      refine gh_vv (y := nI (i + 1)) (nI_1 i) ?_
      refine lv_aload_n hx hb dX1_takeOut_14 rfl (lv_at hl 0 rfl) ?_
      refine va_get (D := G.1) (ci := 1) (v := .int (B 3 0)) (C := RX1) (T := TX1) (N := 5) hx hb hts (fun w9 h9 => List.mem_cons_of_mem _ (List.mem_append_right _ h9)) hown hK hP 0 rfl rfl 3 (by decide) (hts (.fieldLink RX1 21 "GlassHarp$Score" "notes" "I") (List.mem_of_getElem? (i := 1) rfl)) (fun _ h9 => h9) rfl dX1_takeOut_15 ?_
      refine gh_vv (y := nI nn) (hB) ?_
      refine lv_icmp_ge (tgt := 69) hx hb dX1_takeOut_18 (by decide) (fun c_3 => absurd c_3 (nI_ge (by omega) (by omega))) (fun c_3 => ?_)
      refine lv_aload_n hx hb dX1_takeOut_21 rfl (lv_at hl 0 rfl) ?_
      refine va_get (D := G.1) (ci := 1) (v := .ref (b 0)) (C := RX1) (T := TX1) (N := 5) hx hb hts (fun w9 h9 => List.mem_cons_of_mem _ (List.mem_append_right _ h9)) hown hK hP 0 rfl rfl 0 (by decide) (hts (.fieldLink RX1 9 "GlassHarp$Score" "beats" "[I") (List.mem_of_getElem? (i := 2) rfl)) (fun _ h9 => h9) rfl dX1_takeOut_22 ?_
      refine lv_iload_n hx hb dX1_takeOut_25 rfl (lv_at hl 2 rfl) ?_
      refine lv_aload_n hx hb dX1_takeOut_26 rfl (lv_at hl 0 rfl) ?_
      refine va_get (D := G.1) (ci := 1) (v := .ref (b 0)) (C := RX1) (T := TX1) (N := 5) hx hb hts (fun w9 h9 => List.mem_cons_of_mem _ (List.mem_append_right _ h9)) hown hK hP 0 rfl rfl 0 (by decide) (hts (.fieldLink RX1 9 "GlassHarp$Score" "beats" "[I") (List.mem_of_getElem? (i := 2) rfl)) (fun _ h9 => h9) rfl dX1_takeOut_27 ?_
      refine lv_iload_n hx hb dX1_takeOut_30 rfl (lv_at hl 2 rfl) ?_
      refine lv_iconst (v := 1) hx hb dX1_takeOut_31 (by decide) ?_
      refine lv_iadd hx hb dX1_takeOut_32 ?_
      refine gh_vv (y := nI (i + 1)) (nI_1 i) ?_
      refine gh_ia (f := B 0) hx hb hK hP 1 0 rfl rfl (i + 1) (rfl) (by omega) (by decide) dX1_takeOut_33 ?_
      refine gh_is (f := B 0) (ws' := wS G b (gh_st B 0 (upd (B 0) i (B 0 (i + 1))))) hx hb hK hP hD hS 1 0 rfl rfl i (rfl) (by omega) (by decide) dX1_takeOut_34 rfl (fun H locs hP hD hS => ?_)
      refine lv_aload_n hx hb dX1_takeOut_35 rfl (lv_at hl 0 rfl) ?_
      refine va_get (D := G.1) (ci := 1) (v := .ref (b 1)) (C := RX1) (T := TX1) (N := 5) hx hb hts (fun w9 h9 => List.mem_cons_of_mem _ (List.mem_append_right _ h9)) hown hK hP 0 rfl rfl 1 (by decide) (hts (.fieldLink RX1 15 "GlassHarp$Score" "tones" "[I") (List.mem_of_getElem? (i := 3) rfl)) (fun _ h9 => h9) rfl dX1_takeOut_36 ?_
      refine lv_iload_n hx hb dX1_takeOut_39 rfl (lv_at hl 2 rfl) ?_
      refine lv_aload_n hx hb dX1_takeOut_40 rfl (lv_at hl 0 rfl) ?_
      refine va_get (D := G.1) (ci := 1) (v := .ref (b 1)) (C := RX1) (T := TX1) (N := 5) hx hb hts (fun w9 h9 => List.mem_cons_of_mem _ (List.mem_append_right _ h9)) hown hK hP 0 rfl rfl 1 (by decide) (hts (.fieldLink RX1 15 "GlassHarp$Score" "tones" "[I") (List.mem_of_getElem? (i := 3) rfl)) (fun _ h9 => h9) rfl dX1_takeOut_41 ?_
      refine lv_iload_n hx hb dX1_takeOut_44 rfl (lv_at hl 2 rfl) ?_
      refine lv_iconst (v := 1) hx hb dX1_takeOut_45 (by decide) ?_
      refine lv_iadd hx hb dX1_takeOut_46 ?_
      refine gh_vv (y := nI (i + 1)) (nI_1 i) ?_
      refine gh_ia (f := B 1) hx hb hK hP 2 0 rfl rfl (i + 1) (rfl) (by omega) (by decide) dX1_takeOut_47 ?_
      refine gh_is (f := B 1) (ws' := wS G b (gh_st (gh_st B 0 (upd (B 0) i (B 0 (i + 1)))) 1 (upd (B 1) i (B 1 (i + 1))))) hx hb hK hP hD hS 2 0 rfl rfl i (rfl) (by omega) (by decide) dX1_takeOut_48 rfl (fun H locs hP hD hS => ?_)
      refine lv_aload_n hx hb dX1_takeOut_49 rfl (lv_at hl 0 rfl) ?_
      refine va_get (D := G.1) (ci := 1) (v := .ref (b 2)) (C := RX1) (T := TX1) (N := 5) hx hb hts (fun w9 h9 => List.mem_cons_of_mem _ (List.mem_append_right _ h9)) hown hK hP 0 rfl rfl 2 (by decide) (hts (.fieldLink RX1 18 "GlassHarp$Score" "forces" "[I") (List.mem_of_getElem? (i := 4) rfl)) (fun _ h9 => h9) rfl dX1_takeOut_50 ?_
      refine lv_iload_n hx hb dX1_takeOut_53 rfl (lv_at hl 2 rfl) ?_
      refine lv_aload_n hx hb dX1_takeOut_54 rfl (lv_at hl 0 rfl) ?_
      refine va_get (D := G.1) (ci := 1) (v := .ref (b 2)) (C := RX1) (T := TX1) (N := 5) hx hb hts (fun w9 h9 => List.mem_cons_of_mem _ (List.mem_append_right _ h9)) hown hK hP 0 rfl rfl 2 (by decide) (hts (.fieldLink RX1 18 "GlassHarp$Score" "forces" "[I") (List.mem_of_getElem? (i := 4) rfl)) (fun _ h9 => h9) rfl dX1_takeOut_55 ?_
      refine lv_iload_n hx hb dX1_takeOut_58 rfl (lv_at hl 2 rfl) ?_
      refine lv_iconst (v := 1) hx hb dX1_takeOut_59 (by decide) ?_
      refine lv_iadd hx hb dX1_takeOut_60 ?_
      refine gh_vv (y := nI (i + 1)) (nI_1 i) ?_
      refine gh_ia (f := B 2) hx hb hK hP 3 0 rfl rfl (i + 1) (rfl) (by omega) (by decide) dX1_takeOut_61 ?_
      refine gh_is (f := B 2) (ws' := wS G b (gh_st (gh_st (gh_st B 0 (upd (B 0) i (B 0 (i + 1)))) 1 (upd (B 1) i (B 1 (i + 1)))) 2 (upd (B 2) i (B 2 (i + 1))))) hx hb hK hP hD hS 3 0 rfl rfl i (rfl) (by omega) (by decide) dX1_takeOut_62 rfl (fun H locs hP hD hS => ?_)
      refine lv_iinc (v := nI (i + 1)) (lv' := [(2, .int (nI (i + 1))), (0, .ref (b 5)), (1, .int (nI k))]) hx hb dX1_takeOut_63 hl (k := 2) rfl (nI_1 i) (by decide) rfl (fun ls hl => ?_)
      refine lv_goto (tgt := 11) hx hb dX1_takeOut_66 (by decide) ?_
      exact ih (gh_st (gh_st (gh_st B 0 (upd (B 0) i (B 0 (i + 1)))) 1 (upd (B 1) i (B 1 (i + 1)))) 2 (upd (B 2) i (B 2 (i + 1)))) (by rw [gh_sh_s z hi_lo, ← EB]; rfl) (hB) _ _ hP hD hS _ (lv_sub hl [1, 2, 0] rfl)
  exact J11 z ((gh_sh_k z k).symm) (hz) _ _ hP hD hS _ (lv_sub hl [1, 2, 0] rfl)
set_option maxHeartbeats 4000000 in
set_option maxRecDepth 100000 in
theorem c_X0_fillBellows (l : Launch) (G : gh_G) (sz : Nat) (a : Nat → Nat) (sc : Nat) (o : gh_B)  : Met l yX0_fillBellows wsX0_fillBellows ({ frames := 1, cells := 0, slots := 0, locals := 21 } : Room) (gh_w G [.ref (a 0)] (wO G a sc o) sz) (va_Qv (fun _ : Unit => True) (fun _ t9 => va_P G.1 vwCl (wO G a sc (gh_fb o 4)) t9.heap) (va_A (wO G a sc o) sz)) 0 0 (va_A (wO G a sc o) sz) := by
  refine Met.ofW (cc := cX0_fillBellows) (maxL := 2) (ret := none) (by decide) rfl ?_
  intro p e s m args below meth c s₁ B hml hv
  obtain ⟨rfl, hsz, hP, hE, hD0⟩ := hv
  have hx := B.exec
  have hb := B.bytes
  have hr := B.returns
  have hts := atoms_spec (ws := wsX0_fillBellows) B.pre
  have hown : s.vm.findClass RX0 = some m.cls := findClass_of_methodNamed B.named
  have hlocks := B.notSynchronized
  have hK := hE.1
  subst hsz
  have hD := hD0.self (sz := s.heap.size)
  generalize hAe : va_A (wO G a sc o) s.heap.size = A at hD ⊢
  have hA : ∀ q : Nat, s.heap.size ≤ q → A q := fun q h => by rw [← hAe]; exact Or.inr h
  have hS : va_S A s.heap s.heap [] := va_S.rf
  have hl := lv_entry ([.ref (a 0)]) (n := 2) (Nat.le_of_ble_eq_true rfl)
  rw [lg_entry_eq]
  generalize (lg_sl ([.ref (a 0)]) ++ List.replicate (2 - (lg_sl ([.ref (a 0)])).length) Slot.unset).toArray = ls at hl ⊢
  have hl : lv_has ls 2 [(0, .ref (a 0))] := hl
  refine lv_iconst (v := 0) hx hb dX0_fillBellows_0 (by decide) ?_
  refine lv_istore_n (lv' := [(1, .int 0), (0, .ref (a 0))]) hx hb dX0_fillBellows_1 rfl hl (by decide) rfl (fun ls hl => ?_)
  have J2 : ∀ (B : gh_B), (B = gh_fb o 0) → ∀ (H : Heap) (locs : List Loc), va_P G.1 vwCl (wO G a sc B) H → va_D A (wO G a sc B) → va_S A s.heap H locs → ∀ (ls : Array Slot), lv_has ls 2 [(0, .ref (a 0)), (1, .int (nI 0))] → W p l e (headSpec wsX0_fillBellows ({ frames := 1, cells := 0, slots := 0, locals := 21 } : Room)).room s m ([.ref (a 0)] : List Value).toArray below meth c H locs 0 0 (MQ below (va_Qv (fun _ : Unit => True) (fun _ t9 => va_P G.1 vwCl (wO G a sc (gh_fb o 4)) t9.heap) A) ([.ref (a 0)] : List Value).toArray s 0 0 A) (F0 m 2 ls []) := by
    refine gh_loop (n := 4) (i0 := 0) (Nat.zero_le _) (P := fun i => ∀ (B : gh_B), (B = gh_fb o i) → ∀ (H : Heap) (locs : List Loc), va_P G.1 vwCl (wO G a sc B) H → va_D A (wO G a sc B) → va_S A s.heap H locs → ∀ (ls : Array Slot), lv_has ls 2 [(0, .ref (a 0)), (1, .int (nI i))] → W p l e (headSpec wsX0_fillBellows ({ frames := 1, cells := 0, slots := 0, locals := 21 } : Room)).room s m ([.ref (a 0)] : List Value).toArray below meth c H locs 0 0 (MQ below (va_Qv (fun _ : Unit => True) (fun _ t9 => va_P G.1 vwCl (wO G a sc (gh_fb o 4)) t9.heap) A) ([.ref (a 0)] : List Value).toArray s 0 0 A) (F0 m 2 ls [])) ?_ ?_
    · skip
      intro B EB H locs hP hD hS ls hl
      refine lv_iload_n hx hb dX0_fillBellows_2 rfl (lv_at hl 1 rfl) ?_
      refine lv_iconst (v := 4) hx hb dX0_fillBellows_3 (by decide) ?_
      refine lv_icmp_ge (tgt := 37) hx hb dX0_fillBellows_4 (by decide) (fun c_1 => ?_) (fun c_1 => absurd (nI_le (Nat.le_refl _) (by decide)) c_1)
      have hP9 : va_P G.1 vwCl (wO G a sc (gh_fb o 4)) H := by
        have e9 : B = gh_fb o 4 := EB
        rw [← e9]
        exact hP
      exact W.vret hx hb hr (fun t9 ht hW => ⟨⟨(), rfl, trivial, gh_hp hP9 ht⟩, hS.F ht⟩) hS.2.2 dX0_fillBellows_37
    · intro i hi_lo hi ih
      intro B EB H locs hP hD hS ls hl
      refine lv_iload_n hx hb dX0_fillBellows_2 rfl (lv_at hl 1 rfl) ?_
      refine lv_iconst (v := 4) hx hb dX0_fillBellows_3 (by decide) ?_
      refine lv_icmp_ge (tgt := 37) hx hb dX0_fillBellows_4 (by decide) (fun c_2 => absurd c_2 (nI_ge hi (by decide))) (fun c_2 => ?_)
      refine lv_aload_n hx hb dX0_fillBellows_7 rfl (lv_at hl 0 rfl) ?_
      refine va_get (D := G.1) (ci := 0) (v := .ref (a 8)) (C := RX0) (T := TX0) (N := 15) hx hb hts (fun w9 h9 => List.mem_cons_of_mem _ (List.mem_append_right _ h9)) hown hK hP 0 rfl rfl 8 (by decide) (hts (.fieldLink RX0 34 "GlassHarp$Orchestra" "air" "[I") (List.mem_of_getElem? (i := 1) rfl)) (fun _ h9 => h9) rfl dX0_fillBellows_8 ?_
      refine lv_iload_n hx hb dX0_fillBellows_11 rfl (lv_at hl 1 rfl) ?_
      refine lv_bipush (v := 60) hx hb dX0_fillBellows_12 (by decide) ?_
      refine lv_aload_n hx hb dX0_fillBellows_14 rfl (lv_at hl 0 rfl) ?_
      refine va_get (D := G.1) (ci := 0) (v := .ref (a 8)) (C := RX0) (T := TX0) (N := 15) hx hb hts (fun w9 h9 => List.mem_cons_of_mem _ (List.mem_append_right _ h9)) hown hK hP 0 rfl rfl 8 (by decide) (hts (.fieldLink RX0 34 "GlassHarp$Orchestra" "air" "[I") (List.mem_of_getElem? (i := 1) rfl)) (fun _ h9 => h9) rfl dX0_fillBellows_15 ?_
      refine lv_iload_n hx hb dX0_fillBellows_18 rfl (lv_at hl 1 rfl) ?_
      refine gh_ia (f := B 8) hx hb hK hP 8 0 rfl rfl i (rfl) (by omega) (by decide) dX0_fillBellows_19 ?_
      refine lv_aload_n hx hb dX0_fillBellows_20 rfl (lv_at hl 0 rfl) ?_
      refine va_get (D := G.1) (ci := 0) (v := .ref (a 9)) (C := RX0) (T := TX0) (N := 15) hx hb hts (fun w9 h9 => List.mem_cons_of_mem _ (List.mem_append_right _ h9)) hown hK hP 0 rfl rfl 9 (by decide) (hts (.fieldLink RX0 37 "GlassHarp$Orchestra" "pumps" "[I") (List.mem_of_getElem? (i := 2) rfl)) (fun _ h9 => h9) rfl dX0_fillBellows_21 ?_
      refine lv_iload_n hx hb dX0_fillBellows_24 rfl (lv_at hl 1 rfl) ?_
      refine gh_ia (f := B 9) hx hb hK hP 9 0 rfl rfl i (rfl) (by omega) (by decide) dX0_fillBellows_25 ?_
      refine lv_iadd hx hb dX0_fillBellows_26 ?_
      refine va_mmin hx hb (hml.trans hl.1.symm) hown (hts (.methodLink RX0 112 Lib.Math.min.name) (List.mem_of_getElem? (i := 3) rfl)) (hts (.static Lib.Math.min.name) (List.mem_of_getElem? (i := 4) rfl)) (hts (.initialized "java/lang/Math") (List.mem_of_getElem? (i := 5) rfl)) (hts (.code Lib.Math.min.name Lib.Math.min.code 2 (some .int)) (List.mem_of_getElem? (i := 6) rfl)) (Nat.le_of_ble_eq_true rfl) (Nat.le_of_ble_eq_true rfl) (Nat.le_of_ble_eq_true rfl) (Nat.le_of_ble_eq_true rfl) dX0_fillBellows_27 ?_
      refine gh_vv (y := gh_mn (B 8 i + B 9 i)) (rfl) ?_
      refine gh_is (f := B 8) (ws' := wO G a sc (gh_st B 8 (upd (B 8) i (gh_mn (B 8 i + B 9 i))))) hx hb hK hP hD hS 8 0 rfl rfl i (rfl) (by omega) (by decide) dX0_fillBellows_30 rfl (fun H locs hP hD hS => ?_)
      refine lv_iinc (v := nI (i + 1)) (lv' := [(1, .int (nI (i + 1))), (0, .ref (a 0))]) hx hb dX0_fillBellows_31 hl (k := 1) rfl (nI_1 i) (by decide) rfl (fun ls hl => ?_)
      refine lv_goto (tgt := 2) hx hb dX0_fillBellows_34 (by decide) ?_
      exact ih (gh_st B 8 (upd (B 8) i (gh_mn (B 8 i + B 9 i)))) (by first | (simp only [gh_fb, ← EB, c_2, ↓reduceIte, if_true, if_false]; done) | (simp only [gh_fb, ← EB]; simp only [c_2, ↓reduceIte, if_true, if_false]; done) | (simp [gh_fb, ← EB, c_2, ↓reduceIte, if_true, if_false]; done)) _ _ hP hD hS _ (lv_sub hl [1, 0] rfl)
  exact J2 o (by first | (simp only [gh_fb, ↓reduceIte, if_true, if_false]; done) | (simp only [gh_fb, ↓reduceIte, if_true, if_false]; rfl) | (simp [gh_fb, ↓reduceIte, if_true, if_false]; done)) _ _ hP hD hS _ (lv_sub hl [1, 0] rfl)
set_option maxHeartbeats 4000000 in
set_option maxRecDepth 100000 in
theorem c_X0_rub (l : Launch) (G : gh_G) (sz : Nat) (a : Nat → Nat) (sc : Nat) (o : gh_B) (n : Nat) (k : Nat) (t : Int32) (f : Int32) (hn : o 10 0 = nI n) (hn16 : n ≤ 16) (hk : k < n) : Met l yX0_rub wsX0_rub ({ frames := 2, cells := 0, slots := 0, locals := 44 } : Room) (gh_w G [.ref (a 0), .int (nI k), .int t, .int f] (wO G a sc o) sz) (va_Qv (fun _ : Unit => True) (fun _ t9 => va_P G.1 vwCl (wO G a sc (gh_rub o k t f)) t9.heap) (va_A (wO G a sc o) sz)) 0 0 (va_A (wO G a sc o) sz) := by
  refine Met.ofW (cc := cX0_rub) (maxL := 5) (ret := none) (by decide) rfl ?_
  intro p e s m args below meth c s₁ B hml hv
  obtain ⟨rfl, hsz, hP, hE, hD0⟩ := hv
  have hx := B.exec
  have hb := B.bytes
  have hr := B.returns
  have hts := atoms_spec (ws := wsX0_rub) B.pre
  have hown : s.vm.findClass RX0 = some m.cls := findClass_of_methodNamed B.named
  have hlocks := B.notSynchronized
  have hK := hE.1
  subst hsz
  have hD := hD0.self (sz := s.heap.size)
  generalize hAe : va_A (wO G a sc o) s.heap.size = A at hD ⊢
  have hA : ∀ q : Nat, s.heap.size ≤ q → A q := fun q h => by rw [← hAe]; exact Or.inr h
  have hS : va_S A s.heap s.heap [] := va_S.rf
  have hl := lv_entry ([.ref (a 0), .int (nI k), .int t, .int f]) (n := 5) (Nat.le_of_ble_eq_true rfl)
  rw [lg_entry_eq]
  generalize (lg_sl ([.ref (a 0), .int (nI k), .int t, .int f]) ++ List.replicate (5 - (lg_sl ([.ref (a 0), .int (nI k), .int t, .int f])).length) Slot.unset).toArray = ls at hl ⊢
  have hl : lv_has ls 5 [(0, .ref (a 0)), (1, .int (nI k)), (2, .int t), (3, .int f)] := hl
  have J33 : ∀ (B : gh_B), (B = gh_r1 o k t) → ∀ (H : Heap) (locs : List Loc), va_P G.1 vwCl (wO G a sc B) H → va_D A (wO G a sc B) → va_S A s.heap H locs → ∀ (ls : Array Slot), lv_has ls 5 [(0, .ref (a 0)), (1, .int (nI k)), (2, .int t), (3, .int f)] → W p l e (headSpec wsX0_rub ({ frames := 2, cells := 0, slots := 0, locals := 44 } : Room)).room s m ([.ref (a 0), .int (nI k), .int t, .int f] : List Value).toArray below meth c H locs 0 0 (MQ below (va_Qv (fun _ : Unit => True) (fun _ t9 => va_P G.1 vwCl (wO G a sc (gh_rub o k t f)) t9.heap) A) ([.ref (a 0), .int (nI k), .int t, .int f] : List Value).toArray s 0 0 A) (F0 m 33 ls []) := by
    intro B EB H locs hP hD hS ls hl
    have J62 : ∀ (C : gh_B) (x4 : Int32), (C = gh_r2 B k f) → ∀ (H : Heap) (locs : List Loc), va_P G.1 vwCl (wO G a sc C) H → va_D A (wO G a sc C) → va_S A s.heap H locs → ∀ (ls : Array Slot), lv_has ls 5 [(0, .ref (a 0)), (1, .int (nI k)), (2, .int t), (3, .int f), (4, .int x4)] → W p l e (headSpec wsX0_rub ({ frames := 2, cells := 0, slots := 0, locals := 44 } : Room)).room s m ([.ref (a 0), .int (nI k), .int t, .int f] : List Value).toArray below meth c H locs 0 0 (MQ below (va_Qv (fun _ : Unit => True) (fun _ t9 => va_P G.1 vwCl (wO G a sc (gh_rub o k t f)) t9.heap) A) ([.ref (a 0), .int (nI k), .int t, .int f] : List Value).toArray s 0 0 A) (F0 m 62 ls []) := by
      intro C x4 EC H locs hP hD hS ls hl
      refine lv_aload_n hx hb dX0_rub_62 rfl (lv_at hl 0 rfl) ?_
      refine va_get (D := G.1) (ci := 0) (v := .ref (a 7)) (C := RX0) (T := TX0) (N := 15) hx hb hts (fun w9 h9 => List.mem_cons_of_mem _ (List.mem_append_right _ h9)) hown hK hP 0 rfl rfl 7 (by decide) (hts (.fieldLink RX0 31 "GlassHarp$Orchestra" "busy" "[Z") (List.mem_of_getElem? (i := 5) rfl)) (fun _ h9 => h9) rfl dX0_rub_63 ?_
      refine lv_iload_n hx hb dX0_rub_66 rfl (lv_at hl 1 rfl) ?_
      refine lv_iconst (v := 1) hx hb dX0_rub_67 (by decide) ?_
      refine gh_zs (f := C 7) (ws' := wO G a sc (gh_st C 7 (upd (C 7) k 1))) hx hb hK hP hD hS 7 1 rfl rfl k (rfl) (by omega) (by decide) dX0_rub_68 (by decide) rfl (fun H locs hP hD hS => ?_)
      refine lv_aload_n hx hb dX0_rub_69 rfl (lv_at hl 0 rfl) ?_
      refine va_get (D := G.1) (ci := 0) (v := .ref (a 6)) (C := RX0) (T := TX0) (N := 15) hx hb hts (fun w9 h9 => List.mem_cons_of_mem _ (List.mem_append_right _ h9)) hown hK hP 0 rfl rfl 6 (by decide) (hts (.fieldLink RX0 28 "GlassHarp$Orchestra" "plays" "[I") (List.mem_of_getElem? (i := 6) rfl)) (fun _ h9 => h9) rfl dX0_rub_70 ?_
      refine lv_iload_n hx hb dX0_rub_73 rfl (lv_at hl 1 rfl) ?_
      refine lv_dup2_11 hx hb dX0_rub_74 rfl rfl ?_
      refine gh_ia (f := C 6) hx hb hK hP 6 0 rfl rfl k (rfl) (by omega) (by decide) dX0_rub_75 ?_
      refine lv_iconst (v := 1) hx hb dX0_rub_76 (by decide) ?_
      refine lv_iadd hx hb dX0_rub_77 ?_
      refine gh_is (f := C 6) (ws' := wO G a sc (gh_st (gh_st C 7 (upd (C 7) k 1)) 6 (upd (C 6) k ((C 6 k) + 1)))) hx hb hK hP hD hS 6 0 rfl rfl k (rfl) (by omega) (by decide) dX0_rub_78 rfl (fun H locs hP hD hS => ?_)
      refine lv_aload_n hx hb dX0_rub_79 rfl (lv_at hl 0 rfl) ?_
      refine va_get (D := G.1) (ci := 0) (v := .ref (a 5)) (C := RX0) (T := TX0) (N := 15) hx hb hts (fun w9 h9 => List.mem_cons_of_mem _ (List.mem_append_right _ h9)) hown hK hP 0 rfl rfl 5 (by decide) (hts (.fieldLink RX0 25 "GlassHarp$Orchestra" "rings" "[I") (List.mem_of_getElem? (i := 7) rfl)) (fun _ h9 => h9) rfl dX0_rub_80 ?_
      refine lv_iload_n hx hb dX0_rub_83 rfl (lv_at hl 1 rfl) ?_
      refine lv_bipush (v := 9) hx hb dX0_rub_84 (by decide) ?_
      refine gh_is (f := C 5) (ws' := wO G a sc (gh_st (gh_st (gh_st C 7 (upd (C 7) k 1)) 6 (upd (C 6) k ((C 6 k) + 1))) 5 (upd (C 5) k 9))) hx hb hK hP hD hS 5 0 rfl rfl k (rfl) (by omega) (by decide) dX0_rub_86 rfl (fun H locs hP hD hS => ?_)
      refine lv_aload_n hx hb dX0_rub_87 rfl (lv_at hl 0 rfl) ?_
      refine va_get (D := G.1) (ci := 0) (v := .ref (a 3)) (C := RX0) (T := TX0) (N := 15) hx hb hts (fun w9 h9 => List.mem_cons_of_mem _ (List.mem_append_right _ h9)) hown hK hP 0 rfl rfl 3 (by decide) (hts (.fieldLink RX0 18 "GlassHarp$Orchestra" "drops" "[I") (List.mem_of_getElem? (i := 8) rfl)) (fun _ h9 => h9) rfl dX0_rub_88 ?_
      refine lv_iload_n hx hb dX0_rub_91 rfl (lv_at hl 1 rfl) ?_
      refine lv_iconst (v := 0) hx hb dX0_rub_92 (by decide) ?_
      refine lv_aload_n hx hb dX0_rub_93 rfl (lv_at hl 0 rfl) ?_
      refine va_get (D := G.1) (ci := 0) (v := .ref (a 3)) (C := RX0) (T := TX0) (N := 15) hx hb hts (fun w9 h9 => List.mem_cons_of_mem _ (List.mem_append_right _ h9)) hown hK hP 0 rfl rfl 3 (by decide) (hts (.fieldLink RX0 18 "GlassHarp$Orchestra" "drops" "[I") (List.mem_of_getElem? (i := 8) rfl)) (fun _ h9 => h9) rfl dX0_rub_94 ?_
      refine lv_iload_n hx hb dX0_rub_97 rfl (lv_at hl 1 rfl) ?_
      refine gh_ia (f := C 3) hx hb hK hP 3 0 rfl rfl k (rfl) (by omega) (by decide) dX0_rub_98 ?_
      refine lv_iload_n hx hb dX0_rub_99 rfl (lv_at hl 3 rfl) ?_
      refine lv_isub hx hb dX0_rub_100 ?_
      refine va_mmax hx hb (hml.trans hl.1.symm) hown (hts (.methodLink RX0 75 Lib.Math.max.name) (List.mem_of_getElem? (i := 9) rfl)) (hts (.static Lib.Math.max.name) (List.mem_of_getElem? (i := 10) rfl)) (hts (.initialized "java/lang/Math") (List.mem_of_getElem? (i := 11) rfl)) (hts (.code Lib.Math.max.name Lib.Math.max.code 2 (some .int)) (List.mem_of_getElem? (i := 12) rfl)) (Nat.le_of_ble_eq_true rfl) (Nat.le_of_ble_eq_true rfl) (Nat.le_of_ble_eq_true rfl) (Nat.le_of_ble_eq_true rfl) dX0_rub_101 ?_
      refine gh_vv (y := gh_m0 (C 3 k - f)) (rfl) ?_
      refine gh_is (f := C 3) (ws' := wO G a sc (gh_st (gh_st (gh_st (gh_st C 7 (upd (C 7) k 1)) 6 (upd (C 6) k ((C 6 k) + 1))) 5 (upd (C 5) k 9)) 3 (upd (C 3) k (gh_m0 (C 3 k - f))))) hx hb hK hP hD hS 3 0 rfl rfl k (rfl) (by omega) (by decide) dX0_rub_104 rfl (fun H locs hP hD hS => ?_)
      refine lv_iload_n hx hb dX0_rub_105 rfl (lv_at hl 3 rfl) ?_
      refine lv_aload_n hx hb dX0_rub_106 rfl (lv_at hl 0 rfl) ?_
      refine va_get (D := G.1) (ci := 0) (v := .ref (a 2)) (C := RX0) (T := TX0) (N := 15) hx hb hts (fun w9 h9 => List.mem_cons_of_mem _ (List.mem_append_right _ h9)) hown hK hP 0 rfl rfl 2 (by decide) (hts (.fieldLink RX0 15 "GlassHarp$Orchestra" "sizes" "[I") (List.mem_of_getElem? (i := 13) rfl)) (fun _ h9 => h9) rfl dX0_rub_107 ?_
      refine lv_iload_n hx hb dX0_rub_110 rfl (lv_at hl 1 rfl) ?_
      refine gh_ia (f := C 2) hx hb hK hP 2 0 rfl rfl k (rfl) (by omega) (by decide) dX0_rub_111 ?_
      refine lv_iconst (v := 3) hx hb dX0_rub_112 (by decide) ?_
      refine lv_iadd hx hb dX0_rub_113 ?_
      refine lv_icmp_le (tgt := 138) hx hb dX0_rub_114 (by decide) (fun c_3 => ?_) (fun c_3 => ?_)
      · skip
        have hP9 : va_P G.1 vwCl (wO G a sc (gh_rub o k t f)) H := by
          have e9 : gh_st (gh_st (gh_st (gh_st C 7 (upd (C 7) k 1)) 6 (upd (C 6) k ((C 6 k) + 1))) 5 (upd (C 5) k 9)) 3 (upd (C 3) k (gh_m0 (C 3 k - f))) = gh_rub o k t f := by first | (simp only [gh_rub, gh_r4, gh_r3, ← EB, ← EC, c_3, ↓reduceIte, if_true, if_false]; done) | (simp only [gh_rub, gh_r4, gh_r3, ← EB, ← EC]; simp only [c_3, ↓reduceIte, if_true, if_false]; done) | (simp [gh_rub, gh_r4, gh_r3, ← EB, ← EC, c_3, ↓reduceIte, if_true, if_false]; done)
          rw [← e9]
          exact hP
        exact W.vret hx hb hr (fun t9 ht hW => ⟨⟨(), rfl, trivial, gh_hp hP9 ht⟩, hS.F ht⟩) hS.2.2 dX0_rub_138
      · skip
        refine lv_aload_n hx hb dX0_rub_117 rfl (lv_at hl 0 rfl) ?_
        refine va_get (D := G.1) (ci := 0) (v := .ref (a 4)) (C := RX0) (T := TX0) (N := 15) hx hb hts (fun w9 h9 => List.mem_cons_of_mem _ (List.mem_append_right _ h9)) hown hK hP 0 rfl rfl 4 (by decide) (hts (.fieldLink RX0 21 "GlassHarp$Orchestra" "cracked" "[Z") (List.mem_of_getElem? (i := 14) rfl)) (fun _ h9 => h9) rfl dX0_rub_118 ?_
        refine lv_iload_n hx hb dX0_rub_121 rfl (lv_at hl 1 rfl) ?_
        refine lv_iconst (v := 1) hx hb dX0_rub_122 (by decide) ?_
        refine gh_zs (f := C 4) (ws' := wO G a sc (gh_st (gh_st (gh_st (gh_st (gh_st C 7 (upd (C 7) k 1)) 6 (upd (C 6) k ((C 6 k) + 1))) 5 (upd (C 5) k 9)) 3 (upd (C 3) k (gh_m0 (C 3 k - f)))) 4 (upd (C 4) k 1))) hx hb hK hP hD hS 4 1 rfl rfl k (rfl) (by omega) (by decide) dX0_rub_123 (by decide) rfl (fun H locs hP hD hS => ?_)
        refine lv_aload_n hx hb dX0_rub_124 rfl (lv_at hl 0 rfl) ?_
        refine va_get (D := G.1) (ci := 0) (v := .ref (a 3)) (C := RX0) (T := TX0) (N := 15) hx hb hts (fun w9 h9 => List.mem_cons_of_mem _ (List.mem_append_right _ h9)) hown hK hP 0 rfl rfl 3 (by decide) (hts (.fieldLink RX0 18 "GlassHarp$Orchestra" "drops" "[I") (List.mem_of_getElem? (i := 8) rfl)) (fun _ h9 => h9) rfl dX0_rub_125 ?_
        refine lv_iload_n hx hb dX0_rub_128 rfl (lv_at hl 1 rfl) ?_
        refine lv_iconst (v := 0) hx hb dX0_rub_129 (by decide) ?_
        refine gh_is (f := upd (C 3) k (gh_m0 (C 3 k - f))) (ws' := wO G a sc (gh_st (gh_st (gh_st (gh_st (gh_st (gh_st C 7 (upd (C 7) k 1)) 6 (upd (C 6) k ((C 6 k) + 1))) 5 (upd (C 5) k 9)) 3 (upd (C 3) k (gh_m0 (C 3 k - f)))) 4 (upd (C 4) k 1)) 3 (upd (upd (C 3) k (gh_m0 (C 3 k - f))) k 0))) hx hb hK hP hD hS 3 0 rfl rfl k (rfl) (by omega) (by decide) dX0_rub_130 rfl (fun H locs hP hD hS => ?_)
        refine lv_aload_n hx hb dX0_rub_131 rfl (lv_at hl 0 rfl) ?_
        refine va_get (D := G.1) (ci := 0) (v := .ref (a 5)) (C := RX0) (T := TX0) (N := 15) hx hb hts (fun w9 h9 => List.mem_cons_of_mem _ (List.mem_append_right _ h9)) hown hK hP 0 rfl rfl 5 (by decide) (hts (.fieldLink RX0 25 "GlassHarp$Orchestra" "rings" "[I") (List.mem_of_getElem? (i := 7) rfl)) (fun _ h9 => h9) rfl dX0_rub_132 ?_
        refine lv_iload_n hx hb dX0_rub_135 rfl (lv_at hl 1 rfl) ?_
        refine lv_iconst (v := 0) hx hb dX0_rub_136 (by decide) ?_
        refine gh_is (f := upd (C 5) k 9) (ws' := wO G a sc (gh_st (gh_st (gh_st (gh_st (gh_st (gh_st (gh_st C 7 (upd (C 7) k 1)) 6 (upd (C 6) k ((C 6 k) + 1))) 5 (upd (C 5) k 9)) 3 (upd (C 3) k (gh_m0 (C 3 k - f)))) 4 (upd (C 4) k 1)) 3 (upd (upd (C 3) k (gh_m0 (C 3 k - f))) k 0)) 5 (upd (upd (C 5) k 9) k 0))) hx hb hK hP hD hS 5 0 rfl rfl k (rfl) (by omega) (by decide) dX0_rub_137 rfl (fun H locs hP hD hS => ?_)
        have hP9 : va_P G.1 vwCl (wO G a sc (gh_rub o k t f)) H := by
          have e9 : gh_st (gh_st (gh_st (gh_st (gh_st (gh_st (gh_st C 7 (upd (C 7) k 1)) 6 (upd (C 6) k ((C 6 k) + 1))) 5 (upd (C 5) k 9)) 3 (upd (C 3) k (gh_m0 (C 3 k - f)))) 4 (upd (C 4) k 1)) 3 (upd (upd (C 3) k (gh_m0 (C 3 k - f))) k 0)) 5 (upd (upd (C 5) k 9) k 0) = gh_rub o k t f := by first | (simp only [gh_rub, gh_r4, gh_r3, ← EB, ← EC, c_3, ↓reduceIte, if_true, if_false]; done) | (simp only [gh_rub, gh_r4, gh_r3, ← EB, ← EC]; simp only [c_3, ↓reduceIte, if_true, if_false]; done) | (simp [gh_rub, gh_r4, gh_r3, ← EB, ← EC, c_3, ↓reduceIte, if_true, if_false]; done)
          rw [← e9]
          exact hP
        exact W.vret hx hb hr (fun t9 ht hW => ⟨⟨(), rfl, trivial, gh_hp hP9 ht⟩, hS.F ht⟩) hS.2.2 dX0_rub_138
    refine lv_aload_n hx hb dX0_rub_33 rfl (lv_at hl 0 rfl) ?_
    refine va_get (D := G.1) (ci := 0) (v := .ref (a 1)) (C := RX0) (T := TX0) (N := 15) hx hb hts (fun w9 h9 => List.mem_cons_of_mem _ (List.mem_append_right _ h9)) hown hK hP 0 rfl rfl 1 (by decide) (hts (.fieldLink RX0 9 "GlassHarp$Orchestra" "rows" "[I") (List.mem_of_getElem? (i := 3) rfl)) (fun _ h9 => h9) rfl dX0_rub_34 ?_
    refine lv_iload_n hx hb dX0_rub_37 rfl (lv_at hl 1 rfl) ?_
    refine gh_ia (f := B 1) hx hb hK hP 1 0 rfl rfl k (rfl) (by omega) (by decide) dX0_rub_38 ?_
    refine lv_istore (lv' := [(4, .int (B 1 k)), (0, .ref (a 0)), (1, .int (nI k)), (2, .int t), (3, .int f)]) hx hb dX0_rub_39 hl (by decide) rfl (fun ls hl => ?_)
    refine lv_aload_n hx hb dX0_rub_41 rfl (lv_at hl 1 rfl) ?_
    refine lv_iload hx hb dX0_rub_42 (lv_at hl 0 rfl) ?_
    refine lv_iload_n hx hb dX0_rub_44 rfl (lv_at hl 4 rfl) ?_
    refine gh_ci (va_runV (As := [.int (B 1 k), .int f]) (rest := []) ⟨hx, hb, hml, hown, hts⟩ (c_X0_hasAir l G a sc B (B 1 k) f) (cwV 2 hts gX0_rub_X0_hasAir rfl rfl rfl ⟨rfl, hdS_X0_hasAir⟩ ⟨Nat.le_of_ble_eq_true rfl, Nat.le_of_ble_eq_true rfl⟩) (gh_rV hE hP (ci := 0) (q0 := 0) rfl rfl) rfl rfl hl.1 rfl (lv_room (Nat.le_of_ble_eq_true rfl)) dX0_rub_45 ⟨Nat.le_of_ble_eq_true rfl, Nat.le_of_ble_eq_true rfl⟩) ?_
    refine lv_if_eq (tgt := 62) hx hb dX0_rub_48 (by decide) (fun c_4 => ?_) (fun c_4 => ?_)
    · skip
      exact J62 B (B 1 k) (by first | (simp only [gh_r2, ← EB, c_4, ↓reduceIte, if_true, if_false]; done) | (simp only [gh_r2, ← EB]; simp only [c_4, ↓reduceIte, if_true, if_false]; done) | (simp [gh_r2, ← EB, c_4, ↓reduceIte, if_true, if_false]; done)) _ _ hP hD hS _ (lv_sub hl [1, 2, 3, 4, 0] rfl)
    · skip
      refine lv_aload_n hx hb dX0_rub_51 rfl (lv_at hl 1 rfl) ?_
      refine va_get (D := G.1) (ci := 0) (v := .ref (a 8)) (C := RX0) (T := TX0) (N := 15) hx hb hts (fun w9 h9 => List.mem_cons_of_mem _ (List.mem_append_right _ h9)) hown hK hP 0 rfl rfl 8 (by decide) (hts (.fieldLink RX0 34 "GlassHarp$Orchestra" "air" "[I") (List.mem_of_getElem? (i := 4) rfl)) (fun _ h9 => h9) rfl dX0_rub_52 ?_
      refine lv_iload hx hb dX0_rub_55 (lv_at hl 0 rfl) ?_
      refine lv_dup2_11 hx hb dX0_rub_57 rfl rfl ?_
      refine va_iald (f := B 8) hx hb hK hP 8 0 rfl rfl (gh_ha_in c_4) dX0_rub_58 ?_
      refine lv_iload_n hx hb dX0_rub_59 rfl (lv_at hl 4 rfl) ?_
      refine lv_isub hx hb dX0_rub_60 ?_
      refine va_iast (f := B 8) hx hb hK hP hD hS 8 0 rfl rfl (gh_ha_in c_4) dX0_rub_61 (fun H locs hP hD hS => ?_)
      have hP : va_P G.1 vwCl (wO G a sc (gh_st B 8 (upd (B 8) (B 1 k).toNatClampNeg ((B 8 (B 1 k).toNatClampNeg) - f)))) H := hP
      have hD : va_D A (wO G a sc (gh_st B 8 (upd (B 8) (B 1 k).toNatClampNeg ((B 8 (B 1 k).toNatClampNeg) - f)))) := hD
      exact J62 (gh_st B 8 (upd (B 8) (B 1 k).toNatClampNeg ((B 8 (B 1 k).toNatClampNeg) - f))) (B 1 k) (by first | (simp only [gh_r2, ← EB, c_4, ↓reduceIte, if_true, if_false]; done) | (simp only [gh_r2, ← EB]; simp only [c_4, ↓reduceIte, if_true, if_false]; done) | (simp [gh_r2, ← EB, c_4, ↓reduceIte, if_true, if_false]; done)) _ _ hP hD hS _ (lv_sub hl [1, 2, 3, 4, 0] rfl)
  refine lv_aload_n hx hb dX0_rub_0 rfl (lv_at hl 0 rfl) ?_
  refine lv_dup hx hb dX0_rub_1 rfl ?_
  refine va_get (D := G.1) (ci := 0) (v := .int (o 12 0)) (C := RX0) (T := TX0) (N := 15) hx hb hts (fun w9 h9 => List.mem_cons_of_mem _ (List.mem_append_right _ h9)) hown hK hP 0 rfl rfl 12 (by decide) (hts (.fieldLink RX0 47 "GlassHarp$Orchestra" "played" "I") (List.mem_of_getElem? (i := 1) rfl)) (fun _ h9 => h9) rfl dX0_rub_2 ?_
  refine lv_iconst (v := 1) hx hb dX0_rub_5 (by decide) ?_
  refine lv_iadd hx hb dX0_rub_6 ?_
  refine va_put (D := G.1) (ci := 0) (v := .int ((o 12 0) + 1)) (ty := .int) (C := RX0) (T := TX0) (N := 15) hx hb hts (fun w9 h9 => List.mem_cons_of_mem _ (List.mem_append_right _ h9)) tyX0 tyX0_ok nmX0 hown hK hP hD hS 0 rfl rfl 12 (by decide) (hts (.fieldLink RX0 47 "GlassHarp$Orchestra" "played" "I") (List.mem_of_getElem? (i := 1) rfl)) (fun _ h9 => h9) rfl (tyX0_ok 12 (by decide)) rfl rfl (Nat.le_of_ble_eq_true rfl) dX0_rub_7 (fun H locs hP hD hS => ?_)
  have hP : va_P G.1 vwCl (wO G a sc (gh_st o 12 (fun _ => (o 12 0) + 1))) H := hP
  have hD : va_D A (wO G a sc (gh_st o 12 (fun _ => (o 12 0) + 1))) := hD
  refine lv_aload_n hx hb dX0_rub_10 rfl (lv_at hl 0 rfl) ?_
  refine lv_iload_n hx hb dX0_rub_11 rfl (lv_at hl 1 rfl) ?_
  refine gh_ci (va_runV (As := [.int (nI k)]) (rest := []) ⟨hx, hb, hml, hown, hts⟩ (c_X0_toneOf l G a sc (gh_st o 12 (fun _ => (o 12 0) + 1)) n k (hn) (hn16) (hk)) (cwV 1 hts gX0_rub_X0_toneOf rfl rfl rfl ⟨rfl, hdS_X0_toneOf⟩ ⟨Nat.le_of_ble_eq_true rfl, Nat.le_of_ble_eq_true rfl⟩) (gh_rV hE hP (ci := 0) (q0 := 0) rfl rfl) rfl rfl hl.1 rfl (lv_room (Nat.le_of_ble_eq_true rfl)) dX0_rub_12 ⟨Nat.le_of_ble_eq_true rfl, Nat.le_of_ble_eq_true rfl⟩) ?_
  refine lv_iload_n hx hb dX0_rub_15 rfl (lv_at hl 2 rfl) ?_
  refine gh_ci (va_runSN (As := [.int (gh_tn (gh_st o 12 (fun _ => (o 12 0) + 1)) k), .int t]) (rest := []) ⟨hx, hb, hml, hown, hts⟩ (c_X2_distance l G (gh_tn (gh_st o 12 (fun _ => (o 12 0) + 1)) k) t) ⟨va_cnB 2 hts gX0_rub_X2_distance_n94 rfl rfl rfl (hE.2.1 (RX0, 94, yX2_distance, RX2) (List.mem_of_getElem? (i := 5) rfl)) (hts (.initialized RX2) (List.mem_of_getElem? (i := 32) rfl)) hdS_X2_distance ⟨Nat.le_of_ble_eq_true rfl, Nat.le_of_ble_eq_true rfl⟩, (hts (.static yX2_distance) (List.mem_of_getElem? (i := 31) rfl)), trivial⟩ (gh_rS hE (fun k q h => by simp at h)) rfl rfl hl.1 rfl (lv_room (Nat.le_of_ble_eq_true rfl)) dX0_rub_16 ⟨Nat.le_of_ble_eq_true rfl, Nat.le_of_ble_eq_true rfl⟩) ?_
  refine lv_iconst (v := 1) hx hb dX0_rub_19 (by decide) ?_
  refine lv_icmp_gt (tgt := 33) hx hb dX0_rub_20 (by decide) (fun c_5 => ?_) (fun c_5 => ?_)
  · skip
    exact J33 (gh_st o 12 (fun _ => (o 12 0) + 1)) (by first | (simp only [gh_r1, c_5, ↓reduceIte, if_true, if_false]; done) | (simp only [gh_r1]; simp only [c_5, ↓reduceIte, if_true, if_false]; done) | (simp [gh_r1, c_5, ↓reduceIte, if_true, if_false]; done)) _ _ hP hD hS _ (lv_sub hl [0, 1, 2, 3] rfl)
  · skip
    refine lv_aload_n hx hb dX0_rub_23 rfl (lv_at hl 0 rfl) ?_
    refine lv_dup hx hb dX0_rub_24 rfl ?_
    refine va_get (D := G.1) (ci := 0) (v := .int (o 13 0)) (C := RX0) (T := TX0) (N := 15) hx hb hts (fun w9 h9 => List.mem_cons_of_mem _ (List.mem_append_right _ h9)) hown hK hP 0 rfl rfl 13 (by decide) (hts (.fieldLink RX0 50 "GlassHarp$Orchestra" "inTune" "I") (List.mem_of_getElem? (i := 2) rfl)) (fun _ h9 => h9) rfl dX0_rub_25 ?_
    refine lv_iconst (v := 1) hx hb dX0_rub_28 (by decide) ?_
    refine lv_iadd hx hb dX0_rub_29 ?_
    refine va_put (D := G.1) (ci := 0) (v := .int ((o 13 0) + 1)) (ty := .int) (C := RX0) (T := TX0) (N := 15) hx hb hts (fun w9 h9 => List.mem_cons_of_mem _ (List.mem_append_right _ h9)) tyX0 tyX0_ok nmX0 hown hK hP hD hS 0 rfl rfl 13 (by decide) (hts (.fieldLink RX0 50 "GlassHarp$Orchestra" "inTune" "I") (List.mem_of_getElem? (i := 2) rfl)) (fun _ h9 => h9) rfl (tyX0_ok 13 (by decide)) rfl rfl (Nat.le_of_ble_eq_true rfl) dX0_rub_30 (fun H locs hP hD hS => ?_)
    have hP : va_P G.1 vwCl (wO G a sc (gh_st (gh_st o 12 (fun _ => (o 12 0) + 1)) 13 (fun _ => (o 13 0) + 1))) H := hP
    have hD : va_D A (wO G a sc (gh_st (gh_st o 12 (fun _ => (o 12 0) + 1)) 13 (fun _ => (o 13 0) + 1))) := hD
    exact J33 (gh_st (gh_st o 12 (fun _ => (o 12 0) + 1)) 13 (fun _ => (o 13 0) + 1)) (by first | (simp only [gh_r1, c_5, ↓reduceIte, if_true, if_false]; done) | (simp only [gh_r1]; simp only [c_5, ↓reduceIte, if_true, if_false]; done) | (simp [gh_r1, c_5, ↓reduceIte, if_true, if_false]; done)) _ _ hP hD hS _ (lv_sub hl [0, 1, 2, 3] rfl)
set_option maxHeartbeats 4000000 in
set_option maxRecDepth 100000 in
theorem c_X0_playNotes (l : Launch) (G : gh_G) (sz : Nat) (a : Nat → Nat) (b : Nat → Nat) (o : gh_B) (z : gh_B) (n : Nat) (nn : Nat) (hn : o 10 0 = nI n) (hn16 : n ≤ 16) (hz : z 3 0 = nI nn) (hz32 : nn ≤ 32) : Met l yX0_playNotes wsX0_playNotes ({ frames := 3, cells := 0, slots := 0, locals := 70 } : Room) (gh_w G [.ref (a 0)] ((wO G a (b 5) o) ++ (wS G b z)) sz) (va_Qv (fun _ : Unit => True) (fun _ t9 => va_P G.1 vwCl ((wO G a (b 5) (gh_pn z o n nn)) ++ (wS G b z)) t9.heap) (va_A ((wO G a (b 5) o) ++ (wS G b z)) sz)) 0 0 (va_A ((wO G a (b 5) o) ++ (wS G b z)) sz) := by
  refine Met.ofW (cc := cX0_playNotes) (maxL := 4) (ret := none) (by decide) rfl ?_
  intro p e s m args below meth c s₁ B hml hv
  obtain ⟨rfl, hsz, hP, hE, hD0⟩ := hv
  have hx := B.exec
  have hb := B.bytes
  have hr := B.returns
  have hts := atoms_spec (ws := wsX0_playNotes) B.pre
  have hown : s.vm.findClass RX0 = some m.cls := findClass_of_methodNamed B.named
  have hlocks := B.notSynchronized
  have hK := hE.1
  subst hsz
  have hD := hD0.self (sz := s.heap.size)
  generalize hAe : va_A ((wO G a (b 5) o) ++ (wS G b z)) s.heap.size = A at hD ⊢
  have hA : ∀ q : Nat, s.heap.size ≤ q → A q := fun q h => by rw [← hAe]; exact Or.inr h
  have hS : va_S A s.heap s.heap [] := va_S.rf
  have hl := lv_entry ([.ref (a 0)]) (n := 4) (Nat.le_of_ble_eq_true rfl)
  rw [lg_entry_eq]
  generalize (lg_sl ([.ref (a 0)]) ++ List.replicate (4 - (lg_sl ([.ref (a 0)])).length) Slot.unset).toArray = ls at hl ⊢
  have hl : lv_has ls 4 [(0, .ref (a 0))] := hl
  refine lv_iconst (v := 0) hx hb dX0_playNotes_0 (by decide) ?_
  refine lv_istore_n (lv' := [(1, .int 0), (0, .ref (a 0))]) hx hb dX0_playNotes_1 rfl hl (by decide) rfl (fun ls hl => ?_)
  have J2 : ∀ (B : gh_B), (B = gh_nb o 0) → (B 10 0 = nI n) → ∀ (H : Heap) (locs : List Loc), va_P G.1 vwCl ((wO G a (b 5) B) ++ (wS G b z)) H → va_D A ((wO G a (b 5) B) ++ (wS G b z)) → va_S A s.heap H locs → ∀ (ls : Array Slot), lv_has ls 4 [(0, .ref (a 0)), (1, .int (nI 0))] → W p l e (headSpec wsX0_playNotes ({ frames := 3, cells := 0, slots := 0, locals := 70 } : Room)).room s m ([.ref (a 0)] : List Value).toArray below meth c H locs 0 0 (MQ below (va_Qv (fun _ : Unit => True) (fun _ t9 => va_P G.1 vwCl ((wO G a (b 5) (gh_pn z o n nn)) ++ (wS G b z)) t9.heap) A) ([.ref (a 0)] : List Value).toArray s 0 0 A) (F0 m 2 ls []) := by
    refine gh_loop (n := n) (i0 := 0) (Nat.zero_le _) (P := fun i => ∀ (B : gh_B), (B = gh_nb o i) → (B 10 0 = nI n) → ∀ (H : Heap) (locs : List Loc), va_P G.1 vwCl ((wO G a (b 5) B) ++ (wS G b z)) H → va_D A ((wO G a (b 5) B) ++ (wS G b z)) → va_S A s.heap H locs → ∀ (ls : Array Slot), lv_has ls 4 [(0, .ref (a 0)), (1, .int (nI i))] → W p l e (headSpec wsX0_playNotes ({ frames := 3, cells := 0, slots := 0, locals := 70 } : Room)).room s m ([.ref (a 0)] : List Value).toArray below meth c H locs 0 0 (MQ below (va_Qv (fun _ : Unit => True) (fun _ t9 => va_P G.1 vwCl ((wO G a (b 5) (gh_pn z o n nn)) ++ (wS G b z)) t9.heap) A) ([.ref (a 0)] : List Value).toArray s 0 0 A) (F0 m 2 ls [])) ?_ ?_
    · skip
      intro B EB hB H locs hP hD hS ls hl
      refine lv_iload_n hx hb dX0_playNotes_2 rfl (lv_at hl 1 rfl) ?_
      refine lv_aload_n hx hb dX0_playNotes_3 rfl (lv_at hl 0 rfl) ?_
      refine va_get (D := G.1) (ci := 0) (v := .int (B 10 0)) (C := RX0) (T := TX0) (N := 15) hx hb hts (fun w9 h9 => List.mem_cons_of_mem _ (List.mem_append_left _ (List.mem_append_right _ h9))) hown hK hP 0 rfl rfl 10 (by decide) (hts (.fieldLink RX0 40 "GlassHarp$Orchestra" "glasses" "I") (List.mem_of_getElem? (i := 1) rfl)) (fun _ h9 => h9) rfl dX0_playNotes_4 ?_
      refine gh_vv (y := nI n) (hB) ?_
      refine lv_icmp_ge (tgt := 23) hx hb dX0_playNotes_7 (by decide) (fun c_1 => ?_) (fun c_1 => absurd (nI_le (Nat.le_refl _) (Nat.lt_of_le_of_lt hn16 (by decide))) c_1)
      refine lv_aload_n hx hb dX0_playNotes_23 rfl (lv_at hl 0 rfl) ?_
      refine va_get (D := G.1) (ci := 0) (v := .ref (b 5)) (C := RX0) (T := TX0) (N := 15) hx hb hts (fun w9 h9 => List.mem_cons_of_mem _ (List.mem_append_left _ (List.mem_append_right _ h9))) hown hK hP 0 rfl rfl 0 (by decide) (hts (.fieldLink RX0 56 "GlassHarp$Orchestra" "score" "LGlassHarp$Score;") (List.mem_of_getElem? (i := 3) rfl)) (fun _ h9 => h9) rfl dX0_playNotes_24 ?_
      refine lv_aload_n hx hb dX0_playNotes_27 rfl (lv_at hl 0 rfl) ?_
      refine va_get (D := G.1) (ci := 0) (v := .int (B 11 0)) (C := RX0) (T := TX0) (N := 15) hx hb hts (fun w9 h9 => List.mem_cons_of_mem _ (List.mem_append_left _ (List.mem_append_right _ h9))) hown hK hP 0 rfl rfl 11 (by decide) (hts (.fieldLink RX0 44 "GlassHarp$Orchestra" "beat" "I") (List.mem_of_getElem? (i := 4) rfl)) (fun _ h9 => h9) rfl dX0_playNotes_28 ?_
      refine gh_ci (va_runVN (As := [.int (B 11 0)]) (rest := []) ⟨hx, hb, hml, hown, hts⟩ (c_X1_beatAt l G b z (B 11 0)) ⟨va_cnB 1 hts gX0_playNotes_X1_beatAt_n115 rfl rfl rfl (hE.2.1 (RX0, 115, yX1_beatAt, RX2) (List.mem_of_getElem? (i := 17) rfl)) (hts (.initialized RX1) (List.mem_of_getElem? (i := 7) rfl)) hdS_X1_beatAt ⟨Nat.le_of_ble_eq_true rfl, Nat.le_of_ble_eq_true rfl⟩, (hts (.instanceMethod yX1_beatAt) (List.mem_of_getElem? (i := 6) rfl)), (hts (.selects RX1 yX1_beatAt yX1_beatAt) (List.mem_of_getElem? (i := 8) rfl))⟩ (gh_rV hE (hP.sub (ws' := wS G b z) [10, 11, 12, 13] rfl) (ci := 1) (q0 := 0) rfl rfl) rfl rfl hl.1 rfl (lv_room (Nat.le_of_ble_eq_true rfl)) dX0_playNotes_31 ⟨Nat.le_of_ble_eq_true rfl, Nat.le_of_ble_eq_true rfl⟩) ?_
      refine lv_istore_n (lv' := [(1, .int (gh_at z (B 11 0))), (0, .ref (a 0))]) hx hb dX0_playNotes_34 rfl hl (by decide) rfl (fun ls hl => ?_)
      refine lv_iconst (v := 0) hx hb dX0_playNotes_35 (by decide) ?_
      refine lv_istore_n (lv' := [(2, .int 0), (1, .int (gh_at z (B 11 0))), (0, .ref (a 0))]) hx hb dX0_playNotes_36 rfl hl (by decide) rfl (fun ls hl => ?_)
      have J37 : ∀ (C : gh_B), (C = gh_ns z B n (gh_at z (B 11 0)) 0) → (C 10 0 = nI n) → ∀ (H : Heap) (locs : List Loc), va_P G.1 vwCl ((wO G a (b 5) C) ++ (wS G b z)) H → va_D A ((wO G a (b 5) C) ++ (wS G b z)) → va_S A s.heap H locs → ∀ (ls : Array Slot), lv_has ls 4 [(0, .ref (a 0)), (1, .int (gh_at z (B 11 0))), (2, .int (nI 0))] → W p l e (headSpec wsX0_playNotes ({ frames := 3, cells := 0, slots := 0, locals := 70 } : Room)).room s m ([.ref (a 0)] : List Value).toArray below meth c H locs 0 0 (MQ below (va_Qv (fun _ : Unit => True) (fun _ t9 => va_P G.1 vwCl ((wO G a (b 5) (gh_pn z o n nn)) ++ (wS G b z)) t9.heap) A) ([.ref (a 0)] : List Value).toArray s 0 0 A) (F0 m 37 ls []) := by
        refine gh_loop (n := nn) (i0 := 0) (Nat.zero_le _) (P := fun i => ∀ (C : gh_B), (C = gh_ns z B n (gh_at z (B 11 0)) i) → (C 10 0 = nI n) → ∀ (H : Heap) (locs : List Loc), va_P G.1 vwCl ((wO G a (b 5) C) ++ (wS G b z)) H → va_D A ((wO G a (b 5) C) ++ (wS G b z)) → va_S A s.heap H locs → ∀ (ls : Array Slot), lv_has ls 4 [(0, .ref (a 0)), (1, .int (gh_at z (B 11 0))), (2, .int (nI i))] → W p l e (headSpec wsX0_playNotes ({ frames := 3, cells := 0, slots := 0, locals := 70 } : Room)).room s m ([.ref (a 0)] : List Value).toArray below meth c H locs 0 0 (MQ below (va_Qv (fun _ : Unit => True) (fun _ t9 => va_P G.1 vwCl ((wO G a (b 5) (gh_pn z o n nn)) ++ (wS G b z)) t9.heap) A) ([.ref (a 0)] : List Value).toArray s 0 0 A) (F0 m 37 ls [])) ?_ ?_
        · skip
          intro C EC hC H locs hP hD hS ls hl
          refine lv_iload_n hx hb dX0_playNotes_37 rfl (lv_at hl 2 rfl) ?_
          refine lv_aload_n hx hb dX0_playNotes_38 rfl (lv_at hl 0 rfl) ?_
          refine va_get (D := G.1) (ci := 0) (v := .ref (b 5)) (C := RX0) (T := TX0) (N := 15) hx hb hts (fun w9 h9 => List.mem_cons_of_mem _ (List.mem_append_left _ (List.mem_append_right _ h9))) hown hK hP 0 rfl rfl 0 (by decide) (hts (.fieldLink RX0 56 "GlassHarp$Orchestra" "score" "LGlassHarp$Score;") (List.mem_of_getElem? (i := 3) rfl)) (fun _ h9 => h9) rfl dX0_playNotes_39 ?_
          refine va_getN (D := G.1) (ci := 1) (v := .int (z 3 0)) (C := RX1) (T := TX1) (N := 5) hx hb hts (fun w9 h9 => List.mem_cons_of_mem _ (List.mem_append_right _ h9)) hown hK hP 10 rfl rfl 3 (by decide) (va_Nw.use rfl (hE.2.2 (RX0, 120, "GlassHarp$Score", "notes", "I", RX2) (List.mem_of_getElem? (i := 7) rfl))) (fun _ h9 => h9) rfl dX0_playNotes_42 ?_
          refine gh_vv (y := nI nn) (hz) ?_
          refine lv_icmp_ge (tgt := 134) hx hb dX0_playNotes_45 (by decide) (fun c_2 => ?_) (fun c_2 => absurd (nI_le (Nat.le_refl _) (Nat.lt_of_le_of_lt hz32 (by decide))) c_2)
          have hP9 : va_P G.1 vwCl ((wO G a (b 5) (gh_pn z o n nn)) ++ (wS G b z)) H := by
            have e9 : C = gh_pn z o n nn := by first | (simp only [gh_pn, ← EB, ← EC, c_1, c_2, ↓reduceIte, if_true, if_false]; done) | (simp only [gh_pn, ← EB, ← EC]; simp only [c_1, c_2, ↓reduceIte, if_true, if_false]; done) | (simp [gh_pn, ← EB, ← EC, c_1, c_2, ↓reduceIte, if_true, if_false]; done)
            rw [← e9]
            exact hP
          exact W.vret hx hb hr (fun t9 ht hW => ⟨⟨(), rfl, trivial, gh_hp hP9 ht⟩, hS.F ht⟩) hS.2.2 dX0_playNotes_134
        · intro i hi_lo hi ih
          intro C EC hC H locs hP hD hS ls hl
          refine lv_iload_n hx hb dX0_playNotes_37 rfl (lv_at hl 2 rfl) ?_
          refine lv_aload_n hx hb dX0_playNotes_38 rfl (lv_at hl 0 rfl) ?_
          refine va_get (D := G.1) (ci := 0) (v := .ref (b 5)) (C := RX0) (T := TX0) (N := 15) hx hb hts (fun w9 h9 => List.mem_cons_of_mem _ (List.mem_append_left _ (List.mem_append_right _ h9))) hown hK hP 0 rfl rfl 0 (by decide) (hts (.fieldLink RX0 56 "GlassHarp$Orchestra" "score" "LGlassHarp$Score;") (List.mem_of_getElem? (i := 3) rfl)) (fun _ h9 => h9) rfl dX0_playNotes_39 ?_
          refine va_getN (D := G.1) (ci := 1) (v := .int (z 3 0)) (C := RX1) (T := TX1) (N := 5) hx hb hts (fun w9 h9 => List.mem_cons_of_mem _ (List.mem_append_right _ h9)) hown hK hP 10 rfl rfl 3 (by decide) (va_Nw.use rfl (hE.2.2 (RX0, 120, "GlassHarp$Score", "notes", "I", RX2) (List.mem_of_getElem? (i := 7) rfl))) (fun _ h9 => h9) rfl dX0_playNotes_42 ?_
          refine gh_vv (y := nI nn) (hz) ?_
          refine lv_icmp_ge (tgt := 134) hx hb dX0_playNotes_45 (by decide) (fun c_3 => absurd c_3 (nI_ge hi (Nat.lt_of_le_of_lt hz32 (by decide)))) (fun c_3 => ?_)
          refine lv_aload_n hx hb dX0_playNotes_48 rfl (lv_at hl 0 rfl) ?_
          refine va_get (D := G.1) (ci := 0) (v := .ref (b 5)) (C := RX0) (T := TX0) (N := 15) hx hb hts (fun w9 h9 => List.mem_cons_of_mem _ (List.mem_append_left _ (List.mem_append_right _ h9))) hown hK hP 0 rfl rfl 0 (by decide) (hts (.fieldLink RX0 56 "GlassHarp$Orchestra" "score" "LGlassHarp$Score;") (List.mem_of_getElem? (i := 3) rfl)) (fun _ h9 => h9) rfl dX0_playNotes_49 ?_
          refine va_getN (D := G.1) (ci := 1) (v := .ref (b 0)) (C := RX1) (T := TX1) (N := 5) hx hb hts (fun w9 h9 => List.mem_cons_of_mem _ (List.mem_append_right _ h9)) hown hK hP 10 rfl rfl 0 (by decide) (va_Nw.use rfl (hE.2.2 (RX0, 123, "GlassHarp$Score", "beats", "[I", RX2) (List.mem_of_getElem? (i := 1) rfl))) (fun _ h9 => h9) rfl dX0_playNotes_52 ?_
          refine lv_iload_n hx hb dX0_playNotes_55 rfl (lv_at hl 2 rfl) ?_
          refine gh_ia (f := z 0) hx hb hK hP 11 0 rfl rfl i (rfl) (by omega) (by decide) dX0_playNotes_56 ?_
          refine lv_iload_n hx hb dX0_playNotes_57 rfl (lv_at hl 1 rfl) ?_
          refine lv_icmp_ne (tgt := 128) hx hb dX0_playNotes_58 (by decide) (fun c_4 => ?_) (fun c_4 => ?_)
          · skip
            refine lv_iinc (v := nI (i + 1)) (lv' := [(2, .int (nI (i + 1))), (0, .ref (a 0)), (1, .int (gh_at z (B 11 0)))]) hx hb dX0_playNotes_128 hl (k := 2) rfl (nI_1 i) (by decide) rfl (fun ls hl => ?_)
            refine lv_goto (tgt := 37) hx hb dX0_playNotes_131 (by decide) ?_
            exact ih C (by first | (simp only [gh_ns, gh_nt, ← EB, ← EC, c_1, c_3, c_4, ↓reduceIte, if_true, if_false]; done) | (simp only [gh_ns, gh_nt, ← EB, ← EC]; simp only [c_1, c_3, c_4, ↓reduceIte, if_true, if_false]; done) | (simp [gh_ns, gh_nt, ← EB, ← EC, c_1, c_3, c_4, ↓reduceIte, if_true, if_false]; done)) (hC) _ _ hP hD hS _ (lv_sub hl [1, 2, 0] rfl)
          · skip
            refine lv_aload_n hx hb dX0_playNotes_61 rfl (lv_at hl 0 rfl) ?_
            refine lv_aload_n hx hb dX0_playNotes_62 rfl (lv_at hl 0 rfl) ?_
            refine va_get (D := G.1) (ci := 0) (v := .ref (b 5)) (C := RX0) (T := TX0) (N := 15) hx hb hts (fun w9 h9 => List.mem_cons_of_mem _ (List.mem_append_left _ (List.mem_append_right _ h9))) hown hK hP 0 rfl rfl 0 (by decide) (hts (.fieldLink RX0 56 "GlassHarp$Orchestra" "score" "LGlassHarp$Score;") (List.mem_of_getElem? (i := 3) rfl)) (fun _ h9 => h9) rfl dX0_playNotes_63 ?_
            refine va_getN (D := G.1) (ci := 1) (v := .ref (b 1)) (C := RX1) (T := TX1) (N := 5) hx hb hts (fun w9 h9 => List.mem_cons_of_mem _ (List.mem_append_right _ h9)) hown hK hP 10 rfl rfl 1 (by decide) (va_Nw.use rfl (hE.2.2 (RX0, 126, "GlassHarp$Score", "tones", "[I", RX2) (List.mem_of_getElem? (i := 3) rfl))) (fun _ h9 => h9) rfl dX0_playNotes_66 ?_
            refine lv_iload_n hx hb dX0_playNotes_69 rfl (lv_at hl 2 rfl) ?_
            refine gh_ia (f := z 1) hx hb hK hP 12 0 rfl rfl i (rfl) (by omega) (by decide) dX0_playNotes_70 ?_
            refine lv_aload_n hx hb dX0_playNotes_71 rfl (lv_at hl 0 rfl) ?_
            refine va_get (D := G.1) (ci := 0) (v := .ref (b 5)) (C := RX0) (T := TX0) (N := 15) hx hb hts (fun w9 h9 => List.mem_cons_of_mem _ (List.mem_append_left _ (List.mem_append_right _ h9))) hown hK hP 0 rfl rfl 0 (by decide) (hts (.fieldLink RX0 56 "GlassHarp$Orchestra" "score" "LGlassHarp$Score;") (List.mem_of_getElem? (i := 3) rfl)) (fun _ h9 => h9) rfl dX0_playNotes_72 ?_
            refine va_getN (D := G.1) (ci := 1) (v := .ref (b 2)) (C := RX1) (T := TX1) (N := 5) hx hb hts (fun w9 h9 => List.mem_cons_of_mem _ (List.mem_append_right _ h9)) hown hK hP 10 rfl rfl 2 (by decide) (va_Nw.use rfl (hE.2.2 (RX0, 129, "GlassHarp$Score", "forces", "[I", RX2) (List.mem_of_getElem? (i := 5) rfl))) (fun _ h9 => h9) rfl dX0_playNotes_75 ?_
            refine lv_iload_n hx hb dX0_playNotes_78 rfl (lv_at hl 2 rfl) ?_
            refine gh_ia (f := z 2) hx hb hK hP 13 0 rfl rfl i (rfl) (by omega) (by decide) dX0_playNotes_79 ?_
            refine gh_ci (va_runV (As := [.int (z 1 i), .int (z 2 i)]) (rest := []) ⟨hx, hb, hml, hown, hts⟩ (c_X0_playerFor l G a (b 5) C n (z 1 i) (z 2 i) (hC) (hn16)) (cwV 2 hts gX0_playNotes_X0_playerFor rfl rfl rfl ⟨rfl, hdS_X0_playerFor⟩ ⟨Nat.le_of_ble_eq_true rfl, Nat.le_of_ble_eq_true rfl⟩) (gh_rV hE (hP.sub (ws' := wO G a (b 5) C) [0, 1, 2, 3, 4, 5, 6, 7, 8, 9] rfl) (ci := 0) (q0 := 0) rfl rfl) rfl rfl hl.1 rfl (lv_room (Nat.le_of_ble_eq_true rfl)) dX0_playNotes_80 ⟨Nat.le_of_ble_eq_true rfl, Nat.le_of_ble_eq_true rfl⟩) ?_
            refine lv_istore_n (lv' := [(3, .int ((gh_pf C (z 1 i) (z 2 i) n).1)), (0, .ref (a 0)), (1, .int (gh_at z (B 11 0))), (2, .int (nI i))]) hx hb dX0_playNotes_83 rfl hl (by decide) rfl (fun ls hl => ?_)
            refine lv_aload_n hx hb dX0_playNotes_84 rfl (lv_at hl 1 rfl) ?_
            refine lv_iload_n hx hb dX0_playNotes_85 rfl (lv_at hl 0 rfl) ?_
            refine gh_ci (va_runV (As := [.int ((gh_pf C (z 1 i) (z 2 i) n).1)]) (rest := []) ⟨hx, hb, hml, hown, hts⟩ (c_X0_hasGlass l G a (b 5) C ((gh_pf C (z 1 i) (z 2 i) n).1)) (cwV 1 hts gX0_playNotes_X0_hasGlass rfl rfl rfl ⟨rfl, hdS_X0_hasGlass⟩ ⟨Nat.le_of_ble_eq_true rfl, Nat.le_of_ble_eq_true rfl⟩) (gh_rV hE (hP.sub (ws' := wO G a (b 5) C) [0, 1, 2, 3, 4, 5, 6, 7, 8, 9] rfl) (ci := 0) (q0 := 0) rfl rfl) rfl rfl hl.1 rfl (lv_room (Nat.le_of_ble_eq_true rfl)) dX0_playNotes_86 ⟨Nat.le_of_ble_eq_true rfl, Nat.le_of_ble_eq_true rfl⟩) ?_
            refine lv_if_eq (tgt := 118) hx hb dX0_playNotes_89 (by decide) (fun c_5 => ?_) (fun c_5 => ?_)
            · skip
              refine lv_aload_n hx hb dX0_playNotes_118 rfl (lv_at hl 1 rfl) ?_
              refine lv_dup hx hb dX0_playNotes_119 rfl ?_
              refine va_get (D := G.1) (ci := 0) (v := .int (C 14 0)) (C := RX0) (T := TX0) (N := 15) hx hb hts (fun w9 h9 => List.mem_cons_of_mem _ (List.mem_append_left _ (List.mem_append_right _ h9))) hown hK hP 0 rfl rfl 14 (by decide) (hts (.fieldLink RX0 53 "GlassHarp$Orchestra" "missed" "I") (List.mem_of_getElem? (i := 5) rfl)) (fun _ h9 => h9) rfl dX0_playNotes_120 ?_
              refine lv_iconst (v := 1) hx hb dX0_playNotes_123 (by decide) ?_
              refine lv_iadd hx hb dX0_playNotes_124 ?_
              refine va_put (D := G.1) (ci := 0) (v := .int ((C 14 0) + 1)) (ty := .int) (C := RX0) (T := TX0) (N := 15) hx hb hts (fun w9 h9 => List.mem_cons_of_mem _ (List.mem_append_left _ (List.mem_append_right _ h9))) tyX0 tyX0_ok nmX0 hown hK hP hD hS 0 rfl rfl 14 (by decide) (hts (.fieldLink RX0 53 "GlassHarp$Orchestra" "missed" "I") (List.mem_of_getElem? (i := 5) rfl)) (fun _ h9 => h9) rfl (tyX0_ok 14 (by decide)) rfl rfl (Nat.le_of_ble_eq_true rfl) dX0_playNotes_125 (fun H locs hP hD hS => ?_)
              have hP : va_P G.1 vwCl ((wO G a (b 5) (gh_st C 14 (fun _ => (C 14 0) + 1))) ++ (wS G b z)) H := hP
              have hD : va_D A ((wO G a (b 5) (gh_st C 14 (fun _ => (C 14 0) + 1))) ++ (wS G b z)) := hD
              refine lv_iinc (v := nI (i + 1)) (lv' := [(2, .int (nI (i + 1))), (3, .int ((gh_pf C (z 1 i) (z 2 i) n).1)), (0, .ref (a 0)), (1, .int (gh_at z (B 11 0)))]) hx hb dX0_playNotes_128 hl (k := 3) rfl (nI_1 i) (by decide) rfl (fun ls hl => ?_)
              refine lv_goto (tgt := 37) hx hb dX0_playNotes_131 (by decide) ?_
              exact ih (gh_st C 14 (fun _ => (C 14 0) + 1)) (by first | (simp only [gh_ns, gh_nt, ← EB, ← EC, c_1, c_3, c_4, c_5, ↓reduceIte, if_true, if_false]; done) | (simp only [gh_ns, gh_nt, ← EB, ← EC]; simp only [c_1, c_3, c_4, c_5, ↓reduceIte, if_true, if_false]; done) | (simp [gh_ns, gh_nt, ← EB, ← EC, c_1, c_3, c_4, c_5, ↓reduceIte, if_true, if_false]; done)) (hC) _ _ hP hD hS _ (lv_sub hl [2, 3, 0] rfl)
            · skip
              obtain ⟨k5, hk5, ek5⟩ := gh_rg_k c_5 hC (Nat.lt_of_le_of_lt hn16 (by decide))
              refine lv_aload_n hx hb dX0_playNotes_92 rfl (lv_at hl 1 rfl) ?_
              refine lv_iload_n hx hb dX0_playNotes_93 rfl (lv_at hl 0 rfl) ?_
              refine gh_vv (y := nI k5) (ek5) ?_
              refine lv_aload_n hx hb dX0_playNotes_94 rfl (lv_at hl 1 rfl) ?_
              refine va_get (D := G.1) (ci := 0) (v := .ref (b 5)) (C := RX0) (T := TX0) (N := 15) hx hb hts (fun w9 h9 => List.mem_cons_of_mem _ (List.mem_append_left _ (List.mem_append_right _ h9))) hown hK hP 0 rfl rfl 0 (by decide) (hts (.fieldLink RX0 56 "GlassHarp$Orchestra" "score" "LGlassHarp$Score;") (List.mem_of_getElem? (i := 3) rfl)) (fun _ h9 => h9) rfl dX0_playNotes_95 ?_
              refine va_getN (D := G.1) (ci := 1) (v := .ref (b 1)) (C := RX1) (T := TX1) (N := 5) hx hb hts (fun w9 h9 => List.mem_cons_of_mem _ (List.mem_append_right _ h9)) hown hK hP 10 rfl rfl 1 (by decide) (va_Nw.use rfl (hE.2.2 (RX0, 126, "GlassHarp$Score", "tones", "[I", RX2) (List.mem_of_getElem? (i := 3) rfl))) (fun _ h9 => h9) rfl dX0_playNotes_98 ?_
              refine lv_iload_n hx hb dX0_playNotes_101 rfl (lv_at hl 3 rfl) ?_
              refine gh_ia (f := z 1) hx hb hK hP 12 0 rfl rfl i (rfl) (by omega) (by decide) dX0_playNotes_102 ?_
              refine lv_aload_n hx hb dX0_playNotes_103 rfl (lv_at hl 1 rfl) ?_
              refine va_get (D := G.1) (ci := 0) (v := .ref (b 5)) (C := RX0) (T := TX0) (N := 15) hx hb hts (fun w9 h9 => List.mem_cons_of_mem _ (List.mem_append_left _ (List.mem_append_right _ h9))) hown hK hP 0 rfl rfl 0 (by decide) (hts (.fieldLink RX0 56 "GlassHarp$Orchestra" "score" "LGlassHarp$Score;") (List.mem_of_getElem? (i := 3) rfl)) (fun _ h9 => h9) rfl dX0_playNotes_104 ?_
              refine va_getN (D := G.1) (ci := 1) (v := .ref (b 2)) (C := RX1) (T := TX1) (N := 5) hx hb hts (fun w9 h9 => List.mem_cons_of_mem _ (List.mem_append_right _ h9)) hown hK hP 10 rfl rfl 2 (by decide) (va_Nw.use rfl (hE.2.2 (RX0, 129, "GlassHarp$Score", "forces", "[I", RX2) (List.mem_of_getElem? (i := 5) rfl))) (fun _ h9 => h9) rfl dX0_playNotes_107 ?_
              refine lv_iload_n hx hb dX0_playNotes_110 rfl (lv_at hl 3 rfl) ?_
              refine gh_ia (f := z 2) hx hb hK hP 13 0 rfl rfl i (rfl) (by omega) (by decide) dX0_playNotes_111 ?_
              refine gh_cv (wr := wS G b z) (ws' := (wO G a (b 5) (gh_rub C k5 (z 1 i) (z 2 i))) ++ (wS G b z)) (va_runV (As := [.int (nI k5), .int (z 1 i), .int (z 2 i)]) (rest := []) ⟨hx, hb, hml, hown, hts⟩ (c_X0_rub l G H.size a (b 5) C n k5 (z 1 i) (z 2 i) (hC) (hn16) (hk5)) (cwV 3 hts gX0_playNotes_X0_rub rfl rfl rfl ⟨rfl, hdS_X0_rub⟩ ⟨Nat.le_of_ble_eq_true rfl, Nat.le_of_ble_eq_true rfl⟩) (gh_wV hE (hP.sub (ws' := wO G a (b 5) C) [0, 1, 2, 3, 4, 5, 6, 7, 8, 9] rfl) (hD.sub (ws' := wO G a (b 5) C) [0, 1, 2, 3, 4, 5, 6, 7, 8, 9] (by decide) rfl) (ci := 0) (q0 := 0) rfl rfl) rfl rfl hl.1 rfl (lv_room (Nat.le_of_ble_eq_true rfl)) dX0_playNotes_112 ⟨Nat.le_of_ble_eq_true rfl, Nat.le_of_ble_eq_true rfl⟩) hP hD hS hA [0, 1, 2, 3, 4, 5, 6, 7, 8, 9] [10, 11, 12, 13] [4, 5, 6, 7, 8, 9, 10, 11, 12, 13, 0, 1, 2, 3] rfl rfl (by decide) (by decide) (by decide) [a 0, a 1, a 2, a 3, a 4, a 5, a 6, a 7, a 8, a 9] [a 0, a 1, a 2, a 3, a 4, a 5, a 6, a 7, a 8, a 9, b 5, b 0, b 1, b 2] rfl rfl rfl rfl rfl (fun H locs hP hD hS => ?_)
              refine lv_goto (tgt := 128) hx hb dX0_playNotes_115 (by decide) ?_
              refine lv_iinc (v := nI (i + 1)) (lv' := [(2, .int (nI (i + 1))), (3, .int ((gh_pf C (z 1 i) (z 2 i) n).1)), (0, .ref (a 0)), (1, .int (gh_at z (B 11 0)))]) hx hb dX0_playNotes_128 hl (k := 3) rfl (nI_1 i) (by decide) rfl (fun ls hl => ?_)
              refine lv_goto (tgt := 37) hx hb dX0_playNotes_131 (by decide) ?_
              exact ih (gh_rub C k5 (z 1 i) (z 2 i)) (gh_ns_p EC c_4 c_5 ek5 (Nat.lt_of_lt_of_le (Nat.lt_trans hk5 (Nat.lt_of_le_of_lt hn16 (by decide))) (Nat.le_refl _))) (by rw [gh_rub_10]; exact hC) _ _ hP hD hS _ (lv_sub hl [2, 3, 0] rfl)
      exact J37 B (rfl) (hB) _ _ hP hD hS _ (lv_sub hl [2, 1, 0] rfl)
    · intro i hi_lo hi ih
      intro B EB hB H locs hP hD hS ls hl
      refine lv_iload_n hx hb dX0_playNotes_2 rfl (lv_at hl 1 rfl) ?_
      refine lv_aload_n hx hb dX0_playNotes_3 rfl (lv_at hl 0 rfl) ?_
      refine va_get (D := G.1) (ci := 0) (v := .int (B 10 0)) (C := RX0) (T := TX0) (N := 15) hx hb hts (fun w9 h9 => List.mem_cons_of_mem _ (List.mem_append_left _ (List.mem_append_right _ h9))) hown hK hP 0 rfl rfl 10 (by decide) (hts (.fieldLink RX0 40 "GlassHarp$Orchestra" "glasses" "I") (List.mem_of_getElem? (i := 1) rfl)) (fun _ h9 => h9) rfl dX0_playNotes_4 ?_
      refine gh_vv (y := nI n) (hB) ?_
      refine lv_icmp_ge (tgt := 23) hx hb dX0_playNotes_7 (by decide) (fun c_6 => absurd c_6 (nI_ge hi (Nat.lt_of_le_of_lt hn16 (by decide)))) (fun c_6 => ?_)
      refine lv_aload_n hx hb dX0_playNotes_10 rfl (lv_at hl 0 rfl) ?_
      refine va_get (D := G.1) (ci := 0) (v := .ref (a 7)) (C := RX0) (T := TX0) (N := 15) hx hb hts (fun w9 h9 => List.mem_cons_of_mem _ (List.mem_append_left _ (List.mem_append_right _ h9))) hown hK hP 0 rfl rfl 7 (by decide) (hts (.fieldLink RX0 31 "GlassHarp$Orchestra" "busy" "[Z") (List.mem_of_getElem? (i := 2) rfl)) (fun _ h9 => h9) rfl dX0_playNotes_11 ?_
      refine lv_iload_n hx hb dX0_playNotes_14 rfl (lv_at hl 1 rfl) ?_
      refine lv_iconst (v := 0) hx hb dX0_playNotes_15 (by decide) ?_
      refine gh_zs (f := B 7) (ws' := (wO G a (b 5) (gh_st B 7 (upd (B 7) i 0))) ++ (wS G b z)) hx hb hK hP hD hS 7 1 rfl rfl i (rfl) (by omega) (by decide) dX0_playNotes_16 (by decide) rfl (fun H locs hP hD hS => ?_)
      refine lv_iinc (v := nI (i + 1)) (lv' := [(1, .int (nI (i + 1))), (0, .ref (a 0))]) hx hb dX0_playNotes_17 hl (k := 1) rfl (nI_1 i) (by decide) rfl (fun ls hl => ?_)
      refine lv_goto (tgt := 2) hx hb dX0_playNotes_20 (by decide) ?_
      exact ih (gh_st B 7 (upd (B 7) i 0)) (by first | (simp only [gh_nb, ← EB, c_6, ↓reduceIte, if_true, if_false]; done) | (simp only [gh_nb, ← EB]; simp only [c_6, ↓reduceIte, if_true, if_false]; done) | (simp [gh_nb, ← EB, c_6, ↓reduceIte, if_true, if_false]; done)) (hB) _ _ hP hD hS _ (lv_sub hl [1, 0] rfl)
  exact J2 o (by first | (simp only [gh_nb, ↓reduceIte, if_true, if_false]; done) | (simp only [gh_nb, ↓reduceIte, if_true, if_false]; rfl) | (simp [gh_nb, ↓reduceIte, if_true, if_false]; done)) (hn) _ _ hP hD hS _ (lv_sub hl [1, 0] rfl)
set_option maxHeartbeats 4000000 in
set_option maxRecDepth 100000 in
theorem c_X0_fadeAndDry (l : Launch) (G : gh_G) (sz : Nat) (a : Nat → Nat) (sc : Nat) (o : gh_B) (n : Nat) (hn : o 10 0 = nI n) (hn16 : n ≤ 16) : Met l yX0_fadeAndDry wsX0_fadeAndDry ({ frames := 1, cells := 0, slots := 0, locals := 21 } : Room) (gh_w G [.ref (a 0)] (wO G a sc o) sz) (va_Qv (fun _ : Unit => True) (fun _ t9 => va_P G.1 vwCl (wO G a sc (gh_fd (gh_dr (o 11 0)) o n)) t9.heap) (va_A (wO G a sc o) sz)) 0 0 (va_A (wO G a sc o) sz) := by
  refine Met.ofW (cc := cX0_fadeAndDry) (maxL := 3) (ret := none) (by decide) rfl ?_
  intro p e s m args below meth c s₁ B hml hv
  obtain ⟨rfl, hsz, hP, hE, hD0⟩ := hv
  have hx := B.exec
  have hb := B.bytes
  have hr := B.returns
  have hts := atoms_spec (ws := wsX0_fadeAndDry) B.pre
  have hown : s.vm.findClass RX0 = some m.cls := findClass_of_methodNamed B.named
  have hlocks := B.notSynchronized
  have hK := hE.1
  subst hsz
  have hD := hD0.self (sz := s.heap.size)
  generalize hAe : va_A (wO G a sc o) s.heap.size = A at hD ⊢
  have hA : ∀ q : Nat, s.heap.size ≤ q → A q := fun q h => by rw [← hAe]; exact Or.inr h
  have hS : va_S A s.heap s.heap [] := va_S.rf
  have hl := lv_entry ([.ref (a 0)]) (n := 3) (Nat.le_of_ble_eq_true rfl)
  rw [lg_entry_eq]
  generalize (lg_sl ([.ref (a 0)]) ++ List.replicate (3 - (lg_sl ([.ref (a 0)])).length) Slot.unset).toArray = ls at hl ⊢
  have hl : lv_has ls 3 [(0, .ref (a 0))] := hl
  have J15 : ∀ (x1 : Int32), (x1 = gh_dr (o 11 0)) → ∀ (H : Heap) (locs : List Loc), va_P G.1 vwCl (wO G a sc o) H → va_D A (wO G a sc o) → va_S A s.heap H locs → ∀ (ls : Array Slot), lv_has ls 3 [(0, .ref (a 0))] → W p l e (headSpec wsX0_fadeAndDry ({ frames := 1, cells := 0, slots := 0, locals := 21 } : Room)).room s m ([.ref (a 0)] : List Value).toArray below meth c H locs 0 0 (MQ below (va_Qv (fun _ : Unit => True) (fun _ t9 => va_P G.1 vwCl (wO G a sc (gh_fd (gh_dr (o 11 0)) o n)) t9.heap) A) ([.ref (a 0)] : List Value).toArray s 0 0 A) (F0 m 15 ls [.int x1]) := by
    intro x1 e1 H locs hP hD hS ls hl
    subst e1
    refine lv_istore_n (lv' := [(1, .int (gh_dr (o 11 0))), (0, .ref (a 0))]) hx hb dX0_fadeAndDry_15 rfl hl (by decide) rfl (fun ls hl => ?_)
    refine lv_iconst (v := 0) hx hb dX0_fadeAndDry_16 (by decide) ?_
    refine lv_istore_n (lv' := [(2, .int 0), (1, .int (gh_dr (o 11 0))), (0, .ref (a 0))]) hx hb dX0_fadeAndDry_17 rfl hl (by decide) rfl (fun ls hl => ?_)
    have J18 : ∀ (B : gh_B), (B = gh_fd (gh_dr (o 11 0)) o 0) → (B 10 0 = nI n) → ∀ (H : Heap) (locs : List Loc), va_P G.1 vwCl (wO G a sc B) H → va_D A (wO G a sc B) → va_S A s.heap H locs → ∀ (ls : Array Slot), lv_has ls 3 [(0, .ref (a 0)), (1, .int (gh_dr (o 11 0))), (2, .int (nI 0))] → W p l e (headSpec wsX0_fadeAndDry ({ frames := 1, cells := 0, slots := 0, locals := 21 } : Room)).room s m ([.ref (a 0)] : List Value).toArray below meth c H locs 0 0 (MQ below (va_Qv (fun _ : Unit => True) (fun _ t9 => va_P G.1 vwCl (wO G a sc (gh_fd (gh_dr (o 11 0)) o n)) t9.heap) A) ([.ref (a 0)] : List Value).toArray s 0 0 A) (F0 m 18 ls []) := by
      refine gh_loop (n := n) (i0 := 0) (Nat.zero_le _) (P := fun i => ∀ (B : gh_B), (B = gh_fd (gh_dr (o 11 0)) o i) → (B 10 0 = nI n) → ∀ (H : Heap) (locs : List Loc), va_P G.1 vwCl (wO G a sc B) H → va_D A (wO G a sc B) → va_S A s.heap H locs → ∀ (ls : Array Slot), lv_has ls 3 [(0, .ref (a 0)), (1, .int (gh_dr (o 11 0))), (2, .int (nI i))] → W p l e (headSpec wsX0_fadeAndDry ({ frames := 1, cells := 0, slots := 0, locals := 21 } : Room)).room s m ([.ref (a 0)] : List Value).toArray below meth c H locs 0 0 (MQ below (va_Qv (fun _ : Unit => True) (fun _ t9 => va_P G.1 vwCl (wO G a sc (gh_fd (gh_dr (o 11 0)) o n)) t9.heap) A) ([.ref (a 0)] : List Value).toArray s 0 0 A) (F0 m 18 ls [])) ?_ ?_
      · skip
        intro B EB hB H locs hP hD hS ls hl
        refine lv_iload_n hx hb dX0_fadeAndDry_18 rfl (lv_at hl 2 rfl) ?_
        refine lv_aload_n hx hb dX0_fadeAndDry_19 rfl (lv_at hl 0 rfl) ?_
        refine va_get (D := G.1) (ci := 0) (v := .int (B 10 0)) (C := RX0) (T := TX0) (N := 15) hx hb hts (fun w9 h9 => List.mem_cons_of_mem _ (List.mem_append_right _ h9)) hown hK hP 0 rfl rfl 10 (by decide) (hts (.fieldLink RX0 40 "GlassHarp$Orchestra" "glasses" "I") (List.mem_of_getElem? (i := 2) rfl)) (fun _ h9 => h9) rfl dX0_fadeAndDry_20 ?_
        refine gh_vv (y := nI n) (hB) ?_
        refine lv_icmp_ge (tgt := 81) hx hb dX0_fadeAndDry_23 (by decide) (fun c_2 => ?_) (fun c_2 => absurd (nI_le (Nat.le_refl _) (Nat.lt_of_le_of_lt hn16 (by decide))) c_2)
        have hP9 : va_P G.1 vwCl (wO G a sc (gh_fd (gh_dr (o 11 0)) o n)) H := by
          have e9 : B = gh_fd (gh_dr (o 11 0)) o n := EB
          rw [← e9]
          exact hP
        exact W.vret hx hb hr (fun t9 ht hW => ⟨⟨(), rfl, trivial, gh_hp hP9 ht⟩, hS.F ht⟩) hS.2.2 dX0_fadeAndDry_81
      · intro i hi_lo hi ih
        intro B EB hB H locs hP hD hS ls hl
        refine lv_iload_n hx hb dX0_fadeAndDry_18 rfl (lv_at hl 2 rfl) ?_
        refine lv_aload_n hx hb dX0_fadeAndDry_19 rfl (lv_at hl 0 rfl) ?_
        refine va_get (D := G.1) (ci := 0) (v := .int (B 10 0)) (C := RX0) (T := TX0) (N := 15) hx hb hts (fun w9 h9 => List.mem_cons_of_mem _ (List.mem_append_right _ h9)) hown hK hP 0 rfl rfl 10 (by decide) (hts (.fieldLink RX0 40 "GlassHarp$Orchestra" "glasses" "I") (List.mem_of_getElem? (i := 2) rfl)) (fun _ h9 => h9) rfl dX0_fadeAndDry_20 ?_
        refine gh_vv (y := nI n) (hB) ?_
        refine lv_icmp_ge (tgt := 81) hx hb dX0_fadeAndDry_23 (by decide) (fun c_3 => absurd c_3 (nI_ge hi (Nat.lt_of_le_of_lt hn16 (by decide)))) (fun c_3 => ?_)
        have J53 : ∀ (C : gh_B), (C = gh_f1 B i) → (C 10 0 = nI n) → ∀ (H : Heap) (locs : List Loc), va_P G.1 vwCl (wO G a sc C) H → va_D A (wO G a sc C) → va_S A s.heap H locs → ∀ (ls : Array Slot), lv_has ls 3 [(0, .ref (a 0)), (1, .int (gh_dr (o 11 0))), (2, .int (nI i))] → W p l e (headSpec wsX0_fadeAndDry ({ frames := 1, cells := 0, slots := 0, locals := 21 } : Room)).room s m ([.ref (a 0)] : List Value).toArray below meth c H locs 0 0 (MQ below (va_Qv (fun _ : Unit => True) (fun _ t9 => va_P G.1 vwCl (wO G a sc (gh_fd (gh_dr (o 11 0)) o n)) t9.heap) A) ([.ref (a 0)] : List Value).toArray s 0 0 A) (F0 m 53 ls []) := by
          intro C EC hC H locs hP hD hS ls hl
          refine lv_iload_n hx hb dX0_fadeAndDry_53 rfl (lv_at hl 1 rfl) ?_
          refine lv_if_eq (tgt := 75) hx hb dX0_fadeAndDry_54 (by decide) (fun c_5 => ?_) (fun c_5 => ?_)
          · skip
            refine lv_iinc (v := nI (i + 1)) (lv' := [(2, .int (nI (i + 1))), (0, .ref (a 0)), (1, .int (gh_dr (o 11 0)))]) hx hb dX0_fadeAndDry_75 hl (k := 2) rfl (nI_1 i) (by decide) rfl (fun ls hl => ?_)
            refine lv_goto (tgt := 18) hx hb dX0_fadeAndDry_78 (by decide) ?_
            exact ih C (by first | (simp only [gh_fd, gh_f2, ← EB, ← EC, c_3, c_5, ↓reduceIte, if_true, if_false]; done) | (simp only [gh_fd, gh_f2, ← EB, ← EC]; simp only [c_3, c_5, ↓reduceIte, if_true, if_false]; done) | (simp [gh_fd, gh_f2, ← EB, ← EC, c_3, c_5, ↓reduceIte, if_true, if_false]; done)) (hC) _ _ hP hD hS _ (lv_sub hl [1, 2, 0] rfl)
          · skip
            refine lv_aload_n hx hb dX0_fadeAndDry_57 rfl (lv_at hl 0 rfl) ?_
            refine va_get (D := G.1) (ci := 0) (v := .ref (a 3)) (C := RX0) (T := TX0) (N := 15) hx hb hts (fun w9 h9 => List.mem_cons_of_mem _ (List.mem_append_right _ h9)) hown hK hP 0 rfl rfl 3 (by decide) (hts (.fieldLink RX0 18 "GlassHarp$Orchestra" "drops" "[I") (List.mem_of_getElem? (i := 9) rfl)) (fun _ h9 => h9) rfl dX0_fadeAndDry_58 ?_
            refine lv_iload_n hx hb dX0_fadeAndDry_61 rfl (lv_at hl 2 rfl) ?_
            refine lv_iconst (v := 0) hx hb dX0_fadeAndDry_62 (by decide) ?_
            refine lv_aload_n hx hb dX0_fadeAndDry_63 rfl (lv_at hl 0 rfl) ?_
            refine va_get (D := G.1) (ci := 0) (v := .ref (a 3)) (C := RX0) (T := TX0) (N := 15) hx hb hts (fun w9 h9 => List.mem_cons_of_mem _ (List.mem_append_right _ h9)) hown hK hP 0 rfl rfl 3 (by decide) (hts (.fieldLink RX0 18 "GlassHarp$Orchestra" "drops" "[I") (List.mem_of_getElem? (i := 9) rfl)) (fun _ h9 => h9) rfl dX0_fadeAndDry_64 ?_
            refine lv_iload_n hx hb dX0_fadeAndDry_67 rfl (lv_at hl 2 rfl) ?_
            refine gh_ia (f := C 3) hx hb hK hP 3 0 rfl rfl i (rfl) (by omega) (by decide) dX0_fadeAndDry_68 ?_
            refine lv_iconst (v := 1) hx hb dX0_fadeAndDry_69 (by decide) ?_
            refine lv_isub hx hb dX0_fadeAndDry_70 ?_
            refine va_mmax hx hb (hml.trans hl.1.symm) hown (hts (.methodLink RX0 75 Lib.Math.max.name) (List.mem_of_getElem? (i := 5) rfl)) (hts (.static Lib.Math.max.name) (List.mem_of_getElem? (i := 6) rfl)) (hts (.initialized "java/lang/Math") (List.mem_of_getElem? (i := 7) rfl)) (hts (.code Lib.Math.max.name Lib.Math.max.code 2 (some .int)) (List.mem_of_getElem? (i := 8) rfl)) (Nat.le_of_ble_eq_true rfl) (Nat.le_of_ble_eq_true rfl) (Nat.le_of_ble_eq_true rfl) (Nat.le_of_ble_eq_true rfl) dX0_fadeAndDry_71 ?_
            refine gh_vv (y := gh_m0 (C 3 i - 1)) (rfl) ?_
            refine gh_is (f := C 3) (ws' := wO G a sc (gh_st C 3 (upd (C 3) i (gh_m0 (C 3 i - 1))))) hx hb hK hP hD hS 3 0 rfl rfl i (rfl) (by omega) (by decide) dX0_fadeAndDry_74 rfl (fun H locs hP hD hS => ?_)
            refine lv_iinc (v := nI (i + 1)) (lv' := [(2, .int (nI (i + 1))), (0, .ref (a 0)), (1, .int (gh_dr (o 11 0)))]) hx hb dX0_fadeAndDry_75 hl (k := 2) rfl (nI_1 i) (by decide) rfl (fun ls hl => ?_)
            refine lv_goto (tgt := 18) hx hb dX0_fadeAndDry_78 (by decide) ?_
            exact ih (gh_st C 3 (upd (C 3) i (gh_m0 (C 3 i - 1)))) (by first | (simp only [gh_fd, gh_f2, ← EB, ← EC, c_3, c_5, ↓reduceIte, if_true, if_false]; done) | (simp only [gh_fd, gh_f2, ← EB, ← EC]; simp only [c_3, c_5, ↓reduceIte, if_true, if_false]; done) | (simp [gh_fd, gh_f2, ← EB, ← EC, c_3, c_5, ↓reduceIte, if_true, if_false]; done)) (hC) _ _ hP hD hS _ (lv_sub hl [1, 2, 0] rfl)
        refine lv_aload_n hx hb dX0_fadeAndDry_26 rfl (lv_at hl 0 rfl) ?_
        refine va_get (D := G.1) (ci := 0) (v := .ref (a 7)) (C := RX0) (T := TX0) (N := 15) hx hb hts (fun w9 h9 => List.mem_cons_of_mem _ (List.mem_append_right _ h9)) hown hK hP 0 rfl rfl 7 (by decide) (hts (.fieldLink RX0 31 "GlassHarp$Orchestra" "busy" "[Z") (List.mem_of_getElem? (i := 3) rfl)) (fun _ h9 => h9) rfl dX0_fadeAndDry_27 ?_
        refine lv_iload_n hx hb dX0_fadeAndDry_30 rfl (lv_at hl 2 rfl) ?_
        refine gh_za (f := B 7) hx hb hK hP 7 1 rfl rfl i (rfl) (by omega) (by decide) dX0_fadeAndDry_31 ?_
        refine lv_if_ne (tgt := 53) hx hb dX0_fadeAndDry_32 (by decide) (fun c_6 => ?_) (fun c_6 => ?_)
        · skip
          exact J53 B (by first | (simp only [gh_f1, ← EB, c_3, c_6, ↓reduceIte, if_true, if_false]; done) | (simp only [gh_f1, ← EB]; simp only [c_3, c_6, ↓reduceIte, if_true, if_false]; done) | (simp [gh_f1, ← EB, c_3, c_6, ↓reduceIte, if_true, if_false]; done)) (hB) _ _ hP hD hS _ (lv_sub hl [0, 1, 2] rfl)
        · skip
          refine lv_aload_n hx hb dX0_fadeAndDry_35 rfl (lv_at hl 0 rfl) ?_
          refine va_get (D := G.1) (ci := 0) (v := .ref (a 5)) (C := RX0) (T := TX0) (N := 15) hx hb hts (fun w9 h9 => List.mem_cons_of_mem _ (List.mem_append_right _ h9)) hown hK hP 0 rfl rfl 5 (by decide) (hts (.fieldLink RX0 25 "GlassHarp$Orchestra" "rings" "[I") (List.mem_of_getElem? (i := 4) rfl)) (fun _ h9 => h9) rfl dX0_fadeAndDry_36 ?_
          refine lv_iload_n hx hb dX0_fadeAndDry_39 rfl (lv_at hl 2 rfl) ?_
          refine lv_iconst (v := 0) hx hb dX0_fadeAndDry_40 (by decide) ?_
          refine lv_aload_n hx hb dX0_fadeAndDry_41 rfl (lv_at hl 0 rfl) ?_
          refine va_get (D := G.1) (ci := 0) (v := .ref (a 5)) (C := RX0) (T := TX0) (N := 15) hx hb hts (fun w9 h9 => List.mem_cons_of_mem _ (List.mem_append_right _ h9)) hown hK hP 0 rfl rfl 5 (by decide) (hts (.fieldLink RX0 25 "GlassHarp$Orchestra" "rings" "[I") (List.mem_of_getElem? (i := 4) rfl)) (fun _ h9 => h9) rfl dX0_fadeAndDry_42 ?_
          refine lv_iload_n hx hb dX0_fadeAndDry_45 rfl (lv_at hl 2 rfl) ?_
          refine gh_ia (f := B 5) hx hb hK hP 5 0 rfl rfl i (rfl) (by omega) (by decide) dX0_fadeAndDry_46 ?_
          refine lv_iconst (v := 1) hx hb dX0_fadeAndDry_47 (by decide) ?_
          refine lv_isub hx hb dX0_fadeAndDry_48 ?_
          refine va_mmax hx hb (hml.trans hl.1.symm) hown (hts (.methodLink RX0 75 Lib.Math.max.name) (List.mem_of_getElem? (i := 5) rfl)) (hts (.static Lib.Math.max.name) (List.mem_of_getElem? (i := 6) rfl)) (hts (.initialized "java/lang/Math") (List.mem_of_getElem? (i := 7) rfl)) (hts (.code Lib.Math.max.name Lib.Math.max.code 2 (some .int)) (List.mem_of_getElem? (i := 8) rfl)) (Nat.le_of_ble_eq_true rfl) (Nat.le_of_ble_eq_true rfl) (Nat.le_of_ble_eq_true rfl) (Nat.le_of_ble_eq_true rfl) dX0_fadeAndDry_49 ?_
          refine gh_vv (y := gh_m0 (B 5 i - 1)) (rfl) ?_
          refine gh_is (f := B 5) (ws' := wO G a sc (gh_st B 5 (upd (B 5) i (gh_m0 (B 5 i - 1))))) hx hb hK hP hD hS 5 0 rfl rfl i (rfl) (by omega) (by decide) dX0_fadeAndDry_52 rfl (fun H locs hP hD hS => ?_)
          exact J53 (gh_st B 5 (upd (B 5) i (gh_m0 (B 5 i - 1)))) (by first | (simp only [gh_f1, ← EB, c_3, c_6, ↓reduceIte, if_true, if_false]; done) | (simp only [gh_f1, ← EB]; simp only [c_3, c_6, ↓reduceIte, if_true, if_false]; done) | (simp [gh_f1, ← EB, c_3, c_6, ↓reduceIte, if_true, if_false]; done)) (hB) _ _ hP hD hS _ (lv_sub hl [0, 1, 2] rfl)
    exact J18 o (by first | (simp only [gh_fd, gh_f2, ↓reduceIte, if_true, if_false]; done) | (simp only [gh_fd, gh_f2, ↓reduceIte, if_true, if_false]; rfl) | (simp [gh_fd, gh_f2, ↓reduceIte, if_true, if_false]; done)) (hn) _ _ hP hD hS _ (lv_sub hl [2, 1, 0] rfl)
  refine lv_aload_n hx hb dX0_fadeAndDry_0 rfl (lv_at hl 0 rfl) ?_
  refine va_get (D := G.1) (ci := 0) (v := .int (o 11 0)) (C := RX0) (T := TX0) (N := 15) hx hb hts (fun w9 h9 => List.mem_cons_of_mem _ (List.mem_append_right _ h9)) hown hK hP 0 rfl rfl 11 (by decide) (hts (.fieldLink RX0 44 "GlassHarp$Orchestra" "beat" "I") (List.mem_of_getElem? (i := 1) rfl)) (fun _ h9 => h9) rfl dX0_fadeAndDry_1 ?_
  refine lv_bipush (v := 8) hx hb dX0_fadeAndDry_4 (by decide) ?_
  refine lv_irem hx hb dX0_fadeAndDry_6 (by decide) ?_
  refine lv_if_ne (tgt := 14) hx hb dX0_fadeAndDry_7 (by decide) (fun c_7 => ?_) (fun c_7 => ?_)
  · skip
    refine lv_iconst (v := 0) hx hb dX0_fadeAndDry_14 (by decide) ?_
    exact J15 0 (by first | (simp only [gh_dr, c_7, ↓reduceIte, if_true, if_false]; done) | (simp only [gh_dr]; simp only [c_7, ↓reduceIte, if_true, if_false]; done) | (simp [gh_dr, c_7, ↓reduceIte, if_true, if_false]; done)) _ _ hP hD hS _ (lv_sub hl [0] rfl)
  · skip
    refine lv_iconst (v := 1) hx hb dX0_fadeAndDry_10 (by decide) ?_
    refine lv_goto (tgt := 15) hx hb dX0_fadeAndDry_11 (by decide) ?_
    exact J15 1 (by first | (simp only [gh_dr, c_7, ↓reduceIte, if_true, if_false]; done) | (simp only [gh_dr]; simp only [c_7, ↓reduceIte, if_true, if_false]; done) | (simp [gh_dr, c_7, ↓reduceIte, if_true, if_false]; done)) _ _ hP hD hS _ (lv_sub hl [0] rfl)
set_option maxHeartbeats 4000000 in
set_option maxRecDepth 100000 in
theorem c_X0_letGoBy (l : Launch) (G : gh_G) (sz : Nat) (a : Nat → Nat) (b : Nat → Nat) (o : gh_B) (z : gh_B) (n : Nat) (nn : Nat) (g : Nat) (hn : o 10 0 = nI n) (hn16 : n ≤ 16) (hz : z 3 0 = nI nn) (hz32 : nn ≤ 32) (hg : g < 2 ^ 31) : Met l yX0_letGoBy wsX0_letGoBy ({ frames := 4, cells := 0, slots := 0, locals := 93 } : Room) (gh_w G [.ref (a 0), .int (nI g)] ((wO G a (b 5) o) ++ (wS G b z)) sz) (va_Qv (fun _ : Unit => True) (fun _ t9 => va_P G.1 vwCl ((wO G a (b 5) (gh_go z o n nn g)) ++ (wS G b z)) t9.heap) (va_A ((wO G a (b 5) o) ++ (wS G b z)) sz)) 0 0 (va_A ((wO G a (b 5) o) ++ (wS G b z)) sz) := by
  refine Met.ofW (cc := cX0_letGoBy) (maxL := 3) (ret := none) (by decide) rfl ?_
  intro p e s m args below meth c s₁ B hml hv
  obtain ⟨rfl, hsz, hP, hE, hD0⟩ := hv
  have hx := B.exec
  have hb := B.bytes
  have hr := B.returns
  have hts := atoms_spec (ws := wsX0_letGoBy) B.pre
  have hown : s.vm.findClass RX0 = some m.cls := findClass_of_methodNamed B.named
  have hlocks := B.notSynchronized
  have hK := hE.1
  subst hsz
  have hD := hD0.self (sz := s.heap.size)
  generalize hAe : va_A ((wO G a (b 5) o) ++ (wS G b z)) s.heap.size = A at hD ⊢
  have hA : ∀ q : Nat, s.heap.size ≤ q → A q := fun q h => by rw [← hAe]; exact Or.inr h
  have hS : va_S A s.heap s.heap [] := va_S.rf
  have hl := lv_entry ([.ref (a 0), .int (nI g)]) (n := 3) (Nat.le_of_ble_eq_true rfl)
  rw [lg_entry_eq]
  generalize (lg_sl ([.ref (a 0), .int (nI g)]) ++ List.replicate (3 - (lg_sl ([.ref (a 0), .int (nI g)])).length) Slot.unset).toArray = ls at hl ⊢
  have hl : lv_has ls 3 [(0, .ref (a 0)), (1, .int (nI g))] := hl
  refine lv_iconst (v := 0) hx hb dX0_letGoBy_0 (by decide) ?_
  refine lv_istore_n (lv' := [(2, .int 0), (0, .ref (a 0)), (1, .int (nI g))]) hx hb dX0_letGoBy_1 rfl hl (by decide) rfl (fun ls hl => ?_)
  have J2 : ∀ (B : gh_B), (B = gh_go z o n nn 0) → (B 10 0 = nI n) → ∀ (H : Heap) (locs : List Loc), va_P G.1 vwCl ((wO G a (b 5) B) ++ (wS G b z)) H → va_D A ((wO G a (b 5) B) ++ (wS G b z)) → va_S A s.heap H locs → ∀ (ls : Array Slot), lv_has ls 3 [(0, .ref (a 0)), (1, .int (nI g)), (2, .int (nI 0))] → W p l e (headSpec wsX0_letGoBy ({ frames := 4, cells := 0, slots := 0, locals := 93 } : Room)).room s m ([.ref (a 0), .int (nI g)] : List Value).toArray below meth c H locs 0 0 (MQ below (va_Qv (fun _ : Unit => True) (fun _ t9 => va_P G.1 vwCl ((wO G a (b 5) (gh_go z o n nn g)) ++ (wS G b z)) t9.heap) A) ([.ref (a 0), .int (nI g)] : List Value).toArray s 0 0 A) (F0 m 2 ls []) := by
    refine gh_loop (n := g) (i0 := 0) (Nat.zero_le _) (P := fun i => ∀ (B : gh_B), (B = gh_go z o n nn i) → (B 10 0 = nI n) → ∀ (H : Heap) (locs : List Loc), va_P G.1 vwCl ((wO G a (b 5) B) ++ (wS G b z)) H → va_D A ((wO G a (b 5) B) ++ (wS G b z)) → va_S A s.heap H locs → ∀ (ls : Array Slot), lv_has ls 3 [(0, .ref (a 0)), (1, .int (nI g)), (2, .int (nI i))] → W p l e (headSpec wsX0_letGoBy ({ frames := 4, cells := 0, slots := 0, locals := 93 } : Room)).room s m ([.ref (a 0), .int (nI g)] : List Value).toArray below meth c H locs 0 0 (MQ below (va_Qv (fun _ : Unit => True) (fun _ t9 => va_P G.1 vwCl ((wO G a (b 5) (gh_go z o n nn g)) ++ (wS G b z)) t9.heap) A) ([.ref (a 0), .int (nI g)] : List Value).toArray s 0 0 A) (F0 m 2 ls [])) ?_ ?_
    · skip
      intro B EB hB H locs hP hD hS ls hl
      refine lv_iload_n hx hb dX0_letGoBy_2 rfl (lv_at hl 2 rfl) ?_
      refine lv_iload_n hx hb dX0_letGoBy_3 rfl (lv_at hl 1 rfl) ?_
      refine lv_icmp_ge (tgt := 35) hx hb dX0_letGoBy_4 (by decide) (fun c_1 => ?_) (fun c_1 => absurd (nI_le (Nat.le_refl _) (hg)) c_1)
      have hP9 : va_P G.1 vwCl ((wO G a (b 5) (gh_go z o n nn g)) ++ (wS G b z)) H := by
        have e9 : B = gh_go z o n nn g := EB
        rw [← e9]
        exact hP
      exact W.vret hx hb hr (fun t9 ht hW => ⟨⟨(), rfl, trivial, gh_hp hP9 ht⟩, hS.F ht⟩) hS.2.2 dX0_letGoBy_35
    · intro i hi_lo hi ih
      intro B EB hB H locs hP hD hS ls hl
      refine lv_iload_n hx hb dX0_letGoBy_2 rfl (lv_at hl 2 rfl) ?_
      refine lv_iload_n hx hb dX0_letGoBy_3 rfl (lv_at hl 1 rfl) ?_
      refine lv_icmp_ge (tgt := 35) hx hb dX0_letGoBy_4 (by decide) (fun c_2 => absurd c_2 (nI_ge hi (hg))) (fun c_2 => ?_)
      refine lv_aload_n hx hb dX0_letGoBy_7 rfl (lv_at hl 0 rfl) ?_
      refine gh_cv (wr := wS G b z) (ws' := (wO G a (b 5) (gh_fb B 4)) ++ (wS G b z)) (va_runV (As := []) (rest := []) ⟨hx, hb, hml, hown, hts⟩ (c_X0_fillBellows l G H.size a (b 5) B) (cwV 0 hts gX0_letGoBy_X0_fillBellows rfl rfl rfl ⟨rfl, hdS_X0_fillBellows⟩ ⟨Nat.le_of_ble_eq_true rfl, Nat.le_of_ble_eq_true rfl⟩) (gh_wV hE (hP.sub (ws' := wO G a (b 5) B) [0, 1, 2, 3, 4, 5, 6, 7, 8, 9] rfl) (hD.sub (ws' := wO G a (b 5) B) [0, 1, 2, 3, 4, 5, 6, 7, 8, 9] (by decide) rfl) (ci := 0) (q0 := 0) rfl rfl) rfl rfl hl.1 rfl (lv_room (Nat.le_of_ble_eq_true rfl)) dX0_letGoBy_8 ⟨Nat.le_of_ble_eq_true rfl, Nat.le_of_ble_eq_true rfl⟩) hP hD hS hA [0, 1, 2, 3, 4, 5, 6, 7, 8, 9] [10, 11, 12, 13] [4, 5, 6, 7, 8, 9, 10, 11, 12, 13, 0, 1, 2, 3] rfl rfl (by decide) (by decide) (by decide) [a 0, a 1, a 2, a 3, a 4, a 5, a 6, a 7, a 8, a 9] [a 0, a 1, a 2, a 3, a 4, a 5, a 6, a 7, a 8, a 9, b 5, b 0, b 1, b 2] rfl rfl rfl rfl rfl (fun H locs hP hD hS => ?_)
      refine lv_aload_n hx hb dX0_letGoBy_11 rfl (lv_at hl 0 rfl) ?_
      refine gh_cv (wr := []) (ws' := (wO G a (b 5) (gh_pn z (gh_fb B 4) n nn)) ++ (wS G b z)) (va_runV (As := []) (rest := []) ⟨hx, hb, hml, hown, hts⟩ (c_X0_playNotes l G H.size a b (gh_fb B 4) z n nn (by rw [gh_fb_10]; exact hB) (hn16) (hz) (hz32)) (cwV 0 hts gX0_letGoBy_X0_playNotes rfl rfl rfl ⟨rfl, hdS_X0_playNotes⟩ ⟨Nat.le_of_ble_eq_true rfl, Nat.le_of_ble_eq_true rfl⟩) (gh_wV hE hP hD (ci := 0) (q0 := 0) rfl rfl) rfl rfl hl.1 rfl (lv_room (Nat.le_of_ble_eq_true rfl)) dX0_letGoBy_12 ⟨Nat.le_of_ble_eq_true rfl, Nat.le_of_ble_eq_true rfl⟩) hP hD hS hA [0, 1, 2, 3, 4, 5, 6, 7, 8, 9, 10, 11, 12, 13] [] [0, 1, 2, 3, 4, 5, 6, 7, 8, 9, 10, 11, 12, 13] rfl rfl (by decide) (by decide) (by decide) [a 0, a 1, a 2, a 3, a 4, a 5, a 6, a 7, a 8, a 9, b 5, b 0, b 1, b 2] [a 0, a 1, a 2, a 3, a 4, a 5, a 6, a 7, a 8, a 9, b 5, b 0, b 1, b 2] rfl rfl rfl rfl rfl (fun H locs hP hD hS => ?_)
      refine lv_aload_n hx hb dX0_letGoBy_15 rfl (lv_at hl 0 rfl) ?_
      refine gh_cv (wr := wS G b z) (ws' := (wO G a (b 5) (gh_fd (gh_dr ((gh_pn z (gh_fb B 4) n nn) 11 0)) (gh_pn z (gh_fb B 4) n nn) n)) ++ (wS G b z)) (va_runV (As := []) (rest := []) ⟨hx, hb, hml, hown, hts⟩ (c_X0_fadeAndDry l G H.size a (b 5) (gh_pn z (gh_fb B 4) n nn) n (by rw [gh_pn_10, gh_fb_10]; exact hB) (hn16)) (cwV 0 hts gX0_letGoBy_X0_fadeAndDry rfl rfl rfl ⟨rfl, hdS_X0_fadeAndDry⟩ ⟨Nat.le_of_ble_eq_true rfl, Nat.le_of_ble_eq_true rfl⟩) (gh_wV hE (hP.sub (ws' := wO G a (b 5) (gh_pn z (gh_fb B 4) n nn)) [0, 1, 2, 3, 4, 5, 6, 7, 8, 9] rfl) (hD.sub (ws' := wO G a (b 5) (gh_pn z (gh_fb B 4) n nn)) [0, 1, 2, 3, 4, 5, 6, 7, 8, 9] (by decide) rfl) (ci := 0) (q0 := 0) rfl rfl) rfl rfl hl.1 rfl (lv_room (Nat.le_of_ble_eq_true rfl)) dX0_letGoBy_16 ⟨Nat.le_of_ble_eq_true rfl, Nat.le_of_ble_eq_true rfl⟩) hP hD hS hA [0, 1, 2, 3, 4, 5, 6, 7, 8, 9] [10, 11, 12, 13] [4, 5, 6, 7, 8, 9, 10, 11, 12, 13, 0, 1, 2, 3] rfl rfl (by decide) (by decide) (by decide) [a 0, a 1, a 2, a 3, a 4, a 5, a 6, a 7, a 8, a 9] [a 0, a 1, a 2, a 3, a 4, a 5, a 6, a 7, a 8, a 9, b 5, b 0, b 1, b 2] rfl rfl rfl rfl rfl (fun H locs hP hD hS => ?_)
      refine lv_aload_n hx hb dX0_letGoBy_19 rfl (lv_at hl 0 rfl) ?_
      refine lv_dup hx hb dX0_letGoBy_20 rfl ?_
      refine va_get (D := G.1) (ci := 0) (v := .int ((gh_fd (gh_dr ((gh_pn z (gh_fb B 4) n nn) 11 0)) (gh_pn z (gh_fb B 4) n nn) n) 11 0)) (C := RX0) (T := TX0) (N := 15) hx hb hts (fun w9 h9 => List.mem_cons_of_mem _ (List.mem_append_left _ (List.mem_append_right _ h9))) hown hK hP 0 rfl rfl 11 (by decide) (hts (.fieldLink RX0 44 "GlassHarp$Orchestra" "beat" "I") (List.mem_of_getElem? (i := 1) rfl)) (fun _ h9 => h9) rfl dX0_letGoBy_21 ?_
      refine lv_iconst (v := 1) hx hb dX0_letGoBy_24 (by decide) ?_
      refine lv_iadd hx hb dX0_letGoBy_25 ?_
      refine va_put (D := G.1) (ci := 0) (v := .int (((gh_fd (gh_dr ((gh_pn z (gh_fb B 4) n nn) 11 0)) (gh_pn z (gh_fb B 4) n nn) n) 11 0) + 1)) (ty := .int) (C := RX0) (T := TX0) (N := 15) hx hb hts (fun w9 h9 => List.mem_cons_of_mem _ (List.mem_append_left _ (List.mem_append_right _ h9))) tyX0 tyX0_ok nmX0 hown hK hP hD hS 0 rfl rfl 11 (by decide) (hts (.fieldLink RX0 44 "GlassHarp$Orchestra" "beat" "I") (List.mem_of_getElem? (i := 1) rfl)) (fun _ h9 => h9) rfl (tyX0_ok 11 (by decide)) rfl rfl (Nat.le_of_ble_eq_true rfl) dX0_letGoBy_26 (fun H locs hP hD hS => ?_)
      have hP : va_P G.1 vwCl ((wO G a (b 5) (gh_st (gh_fd (gh_dr ((gh_pn z (gh_fb B 4) n nn) 11 0)) (gh_pn z (gh_fb B 4) n nn) n) 11 (fun _ => ((gh_fd (gh_dr ((gh_pn z (gh_fb B 4) n nn) 11 0)) (gh_pn z (gh_fb B 4) n nn) n) 11 0) + 1))) ++ (wS G b z)) H := hP
      have hD : va_D A ((wO G a (b 5) (gh_st (gh_fd (gh_dr ((gh_pn z (gh_fb B 4) n nn) 11 0)) (gh_pn z (gh_fb B 4) n nn) n) 11 (fun _ => ((gh_fd (gh_dr ((gh_pn z (gh_fb B 4) n nn) 11 0)) (gh_pn z (gh_fb B 4) n nn) n) 11 0) + 1))) ++ (wS G b z)) := hD
      refine lv_iinc (v := nI (i + 1)) (lv' := [(2, .int (nI (i + 1))), (0, .ref (a 0)), (1, .int (nI g))]) hx hb dX0_letGoBy_29 hl (k := 2) rfl (nI_1 i) (by decide) rfl (fun ls hl => ?_)
      refine lv_goto (tgt := 2) hx hb dX0_letGoBy_32 (by decide) ?_
      exact ih (gh_st (gh_fd (gh_dr ((gh_pn z (gh_fb B 4) n nn) 11 0)) (gh_pn z (gh_fb B 4) n nn) n) 11 (fun _ => ((gh_fd (gh_dr ((gh_pn z (gh_fb B 4) n nn) 11 0)) (gh_pn z (gh_fb B 4) n nn) n) 11 0) + 1)) (by first | (simp only [gh_go, gh_bt, gh_be, ← EB, c_2, ↓reduceIte, if_true, if_false]; done) | (simp only [gh_go, gh_bt, gh_be, ← EB]; simp only [c_2, ↓reduceIte, if_true, if_false]; done) | (simp [gh_go, gh_bt, gh_be, ← EB, c_2, ↓reduceIte, if_true, if_false]; done)) (by rw [gh_sn _ _ (by decide), gh_fd_10, gh_pn_10, gh_fb_10]; exact hB) _ _ hP hD hS _ (lv_sub hl [1, 2, 0] rfl)
  exact J2 o (by first | (simp only [gh_go, gh_bt, gh_be, ↓reduceIte, if_true, if_false]; done) | (simp only [gh_go, gh_bt, gh_be, ↓reduceIte, if_true, if_false]; rfl) | (simp [gh_go, gh_bt, gh_be, ↓reduceIte, if_true, if_false]; done)) (hn) _ _ hP hD hS _ (lv_sub hl [1, 2, 0] rfl)
set_option maxHeartbeats 4000000 in
set_option maxRecDepth 100000 in
theorem c_X0_takeOver (l : Launch) (G : gh_G) (sz : Nat) (a : Nat → Nat) (sc : Nat) (o : gh_B) (d : Nat → Nat) (sd : Nat) (q : gh_B) (n : Nat) (hn : q 10 0 = nI n) (hn16 : n ≤ 16) : Met l yX0_takeOver wsX0_takeOver ({ frames := 0, cells := 0, slots := 0, locals := 0 } : Room) (gh_w G [.ref (a 0), .ref (d 0)] ((wO G a sc o) ++ (wO G d sd q)) sz) (va_Qv (fun _ : Unit => True) (fun _ t9 => va_P G.1 vwCl ((wO G a sc (gh_to q o n)) ++ (wO G d sd q)) t9.heap) (va_A ((wO G a sc o) ++ (wO G d sd q)) sz)) 0 0 (va_A ((wO G a sc o) ++ (wO G d sd q)) sz) := by
  refine Met.ofW (cc := cX0_takeOver) (maxL := 3) (ret := none) (by decide) rfl ?_
  intro p e s m args below meth c s₁ B hml hv
  obtain ⟨rfl, hsz, hP, hE, hD0⟩ := hv
  have hx := B.exec
  have hb := B.bytes
  have hr := B.returns
  have hts := atoms_spec (ws := wsX0_takeOver) B.pre
  have hown : s.vm.findClass RX0 = some m.cls := findClass_of_methodNamed B.named
  have hlocks := B.notSynchronized
  have hK := hE.1
  subst hsz
  have hD := hD0.self (sz := s.heap.size)
  generalize hAe : va_A ((wO G a sc o) ++ (wO G d sd q)) s.heap.size = A at hD ⊢
  have hA : ∀ q : Nat, s.heap.size ≤ q → A q := fun q h => by rw [← hAe]; exact Or.inr h
  have hS : va_S A s.heap s.heap [] := va_S.rf
  have hl := lv_entry ([.ref (a 0), .ref (d 0)]) (n := 3) (Nat.le_of_ble_eq_true rfl)
  rw [lg_entry_eq]
  generalize (lg_sl ([.ref (a 0), .ref (d 0)]) ++ List.replicate (3 - (lg_sl ([.ref (a 0), .ref (d 0)])).length) Slot.unset).toArray = ls at hl ⊢
  have hl : lv_has ls 3 [(0, .ref (a 0)), (1, .ref (d 0))] := hl
  refine lv_iconst (v := 0) hx hb dX0_takeOver_0 (by decide) ?_
  refine lv_istore_n (lv' := [(2, .int 0), (0, .ref (a 0)), (1, .ref (d 0))]) hx hb dX0_takeOver_1 rfl hl (by decide) rfl (fun ls hl => ?_)
  have J2 : ∀ (B : gh_B), (B = gh_tk q o 0) → ∀ (H : Heap) (locs : List Loc), va_P G.1 vwCl ((wO G a sc B) ++ (wO G d sd q)) H → va_D A ((wO G a sc B) ++ (wO G d sd q)) → va_S A s.heap H locs → ∀ (ls : Array Slot), lv_has ls 3 [(0, .ref (a 0)), (1, .ref (d 0)), (2, .int (nI 0))] → W p l e (headSpec wsX0_takeOver ({ frames := 0, cells := 0, slots := 0, locals := 0 } : Room)).room s m ([.ref (a 0), .ref (d 0)] : List Value).toArray below meth c H locs 0 0 (MQ below (va_Qv (fun _ : Unit => True) (fun _ t9 => va_P G.1 vwCl ((wO G a sc (gh_to q o n)) ++ (wO G d sd q)) t9.heap) A) ([.ref (a 0), .ref (d 0)] : List Value).toArray s 0 0 A) (F0 m 2 ls []) := by
    refine gh_loop (n := n) (i0 := 0) (Nat.zero_le _) (P := fun i => ∀ (B : gh_B), (B = gh_tk q o i) → ∀ (H : Heap) (locs : List Loc), va_P G.1 vwCl ((wO G a sc B) ++ (wO G d sd q)) H → va_D A ((wO G a sc B) ++ (wO G d sd q)) → va_S A s.heap H locs → ∀ (ls : Array Slot), lv_has ls 3 [(0, .ref (a 0)), (1, .ref (d 0)), (2, .int (nI i))] → W p l e (headSpec wsX0_takeOver ({ frames := 0, cells := 0, slots := 0, locals := 0 } : Room)).room s m ([.ref (a 0), .ref (d 0)] : List Value).toArray below meth c H locs 0 0 (MQ below (va_Qv (fun _ : Unit => True) (fun _ t9 => va_P G.1 vwCl ((wO G a sc (gh_to q o n)) ++ (wO G d sd q)) t9.heap) A) ([.ref (a 0), .ref (d 0)] : List Value).toArray s 0 0 A) (F0 m 2 ls [])) ?_ ?_
    · skip
      intro B EB H locs hP hD hS ls hl
      refine lv_iload_n hx hb dX0_takeOver_2 rfl (lv_at hl 2 rfl) ?_
      refine lv_aload_n hx hb dX0_takeOver_3 rfl (lv_at hl 1 rfl) ?_
      refine va_get (D := G.1) (ci := 0) (v := .int (q 10 0)) (C := RX0) (T := TX0) (N := 15) hx hb hts (fun w9 h9 => List.mem_cons_of_mem _ (List.mem_append_right _ h9)) hown hK hP 10 rfl rfl 10 (by decide) (hts (.fieldLink RX0 40 "GlassHarp$Orchestra" "glasses" "I") (List.mem_of_getElem? (i := 1) rfl)) (fun _ h9 => h9) rfl dX0_takeOver_4 ?_
      refine gh_vv (y := nI n) (hn) ?_
      refine lv_icmp_ge (tgt := 88) hx hb dX0_takeOver_7 (by decide) (fun c_1 => ?_) (fun c_1 => absurd (nI_le (Nat.le_refl _) (Nat.lt_of_le_of_lt hn16 (by decide))) c_1)
      refine lv_iconst (v := 0) hx hb dX0_takeOver_88 (by decide) ?_
      refine lv_istore_n (lv' := [(2, .int 0), (0, .ref (a 0)), (1, .ref (d 0))]) hx hb dX0_takeOver_89 rfl hl (by decide) rfl (fun ls hl => ?_)
      have J90 : ∀ (C : gh_B), (C = gh_ta q B 0) → ∀ (H : Heap) (locs : List Loc), va_P G.1 vwCl ((wO G a sc C) ++ (wO G d sd q)) H → va_D A ((wO G a sc C) ++ (wO G d sd q)) → va_S A s.heap H locs → ∀ (ls : Array Slot), lv_has ls 3 [(0, .ref (a 0)), (1, .ref (d 0)), (2, .int (nI 0))] → W p l e (headSpec wsX0_takeOver ({ frames := 0, cells := 0, slots := 0, locals := 0 } : Room)).room s m ([.ref (a 0), .ref (d 0)] : List Value).toArray below meth c H locs 0 0 (MQ below (va_Qv (fun _ : Unit => True) (fun _ t9 => va_P G.1 vwCl ((wO G a sc (gh_to q o n)) ++ (wO G d sd q)) t9.heap) A) ([.ref (a 0), .ref (d 0)] : List Value).toArray s 0 0 A) (F0 m 90 ls []) := by
        refine gh_loop (n := 4) (i0 := 0) (Nat.zero_le _) (P := fun i => ∀ (C : gh_B), (C = gh_ta q B i) → ∀ (H : Heap) (locs : List Loc), va_P G.1 vwCl ((wO G a sc C) ++ (wO G d sd q)) H → va_D A ((wO G a sc C) ++ (wO G d sd q)) → va_S A s.heap H locs → ∀ (ls : Array Slot), lv_has ls 3 [(0, .ref (a 0)), (1, .ref (d 0)), (2, .int (nI i))] → W p l e (headSpec wsX0_takeOver ({ frames := 0, cells := 0, slots := 0, locals := 0 } : Room)).room s m ([.ref (a 0), .ref (d 0)] : List Value).toArray below meth c H locs 0 0 (MQ below (va_Qv (fun _ : Unit => True) (fun _ t9 => va_P G.1 vwCl ((wO G a sc (gh_to q o n)) ++ (wO G d sd q)) t9.heap) A) ([.ref (a 0), .ref (d 0)] : List Value).toArray s 0 0 A) (F0 m 90 ls [])) ?_ ?_
        · skip
          intro C EC H locs hP hD hS ls hl
          refine lv_iload_n hx hb dX0_takeOver_90 rfl (lv_at hl 2 rfl) ?_
          refine lv_iconst (v := 4) hx hb dX0_takeOver_91 (by decide) ?_
          refine lv_icmp_ge (tgt := 125) hx hb dX0_takeOver_92 (by decide) (fun c_2 => ?_) (fun c_2 => absurd (nI_le (Nat.le_refl _) (by decide)) c_2)
          refine lv_aload_n hx hb dX0_takeOver_125 rfl (lv_at hl 0 rfl) ?_
          refine lv_aload_n hx hb dX0_takeOver_126 rfl (lv_at hl 1 rfl) ?_
          refine va_get (D := G.1) (ci := 0) (v := .int (q 10 0)) (C := RX0) (T := TX0) (N := 15) hx hb hts (fun w9 h9 => List.mem_cons_of_mem _ (List.mem_append_right _ h9)) hown hK hP 10 rfl rfl 10 (by decide) (hts (.fieldLink RX0 40 "GlassHarp$Orchestra" "glasses" "I") (List.mem_of_getElem? (i := 1) rfl)) (fun _ h9 => h9) rfl dX0_takeOver_127 ?_
          refine gh_vv (y := q 10 0) (rfl) ?_
          refine va_put (D := G.1) (ci := 0) (v := .int (q 10 0)) (ty := .int) (C := RX0) (T := TX0) (N := 15) hx hb hts (fun w9 h9 => List.mem_cons_of_mem _ (List.mem_append_right _ h9)) tyX0 tyX0_ok nmX0 hown hK hP hD hS 0 rfl rfl 10 (by decide) (hts (.fieldLink RX0 40 "GlassHarp$Orchestra" "glasses" "I") (List.mem_of_getElem? (i := 1) rfl)) (fun _ h9 => h9) rfl (tyX0_ok 10 (by decide)) rfl rfl (Nat.le_of_ble_eq_true rfl) dX0_takeOver_130 (fun H locs hP hD hS => ?_)
          have hP : va_P G.1 vwCl ((wO G a sc (gh_st C 10 (fun _ => q 10 0))) ++ (wO G d sd q)) H := hP
          have hD : va_D A ((wO G a sc (gh_st C 10 (fun _ => q 10 0))) ++ (wO G d sd q)) := hD
          refine lv_aload_n hx hb dX0_takeOver_133 rfl (lv_at hl 0 rfl) ?_
          refine lv_aload_n hx hb dX0_takeOver_134 rfl (lv_at hl 1 rfl) ?_
          refine va_get (D := G.1) (ci := 0) (v := .int (q 11 0)) (C := RX0) (T := TX0) (N := 15) hx hb hts (fun w9 h9 => List.mem_cons_of_mem _ (List.mem_append_right _ h9)) hown hK hP 10 rfl rfl 11 (by decide) (hts (.fieldLink RX0 44 "GlassHarp$Orchestra" "beat" "I") (List.mem_of_getElem? (i := 10) rfl)) (fun _ h9 => h9) rfl dX0_takeOver_135 ?_
          refine va_put (D := G.1) (ci := 0) (v := .int (q 11 0)) (ty := .int) (C := RX0) (T := TX0) (N := 15) hx hb hts (fun w9 h9 => List.mem_cons_of_mem _ (List.mem_append_right _ h9)) tyX0 tyX0_ok nmX0 hown hK hP hD hS 0 rfl rfl 11 (by decide) (hts (.fieldLink RX0 44 "GlassHarp$Orchestra" "beat" "I") (List.mem_of_getElem? (i := 10) rfl)) (fun _ h9 => h9) rfl (tyX0_ok 11 (by decide)) rfl rfl (Nat.le_of_ble_eq_true rfl) dX0_takeOver_138 (fun H locs hP hD hS => ?_)
          have hP : va_P G.1 vwCl ((wO G a sc (gh_st (gh_st C 10 (fun _ => q 10 0)) 11 (fun _ => q 11 0))) ++ (wO G d sd q)) H := hP
          have hD : va_D A ((wO G a sc (gh_st (gh_st C 10 (fun _ => q 10 0)) 11 (fun _ => q 11 0))) ++ (wO G d sd q)) := hD
          refine lv_aload_n hx hb dX0_takeOver_141 rfl (lv_at hl 0 rfl) ?_
          refine lv_aload_n hx hb dX0_takeOver_142 rfl (lv_at hl 1 rfl) ?_
          refine va_get (D := G.1) (ci := 0) (v := .int (q 12 0)) (C := RX0) (T := TX0) (N := 15) hx hb hts (fun w9 h9 => List.mem_cons_of_mem _ (List.mem_append_right _ h9)) hown hK hP 10 rfl rfl 12 (by decide) (hts (.fieldLink RX0 47 "GlassHarp$Orchestra" "played" "I") (List.mem_of_getElem? (i := 11) rfl)) (fun _ h9 => h9) rfl dX0_takeOver_143 ?_
          refine va_put (D := G.1) (ci := 0) (v := .int (q 12 0)) (ty := .int) (C := RX0) (T := TX0) (N := 15) hx hb hts (fun w9 h9 => List.mem_cons_of_mem _ (List.mem_append_right _ h9)) tyX0 tyX0_ok nmX0 hown hK hP hD hS 0 rfl rfl 12 (by decide) (hts (.fieldLink RX0 47 "GlassHarp$Orchestra" "played" "I") (List.mem_of_getElem? (i := 11) rfl)) (fun _ h9 => h9) rfl (tyX0_ok 12 (by decide)) rfl rfl (Nat.le_of_ble_eq_true rfl) dX0_takeOver_146 (fun H locs hP hD hS => ?_)
          have hP : va_P G.1 vwCl ((wO G a sc (gh_st (gh_st (gh_st C 10 (fun _ => q 10 0)) 11 (fun _ => q 11 0)) 12 (fun _ => q 12 0))) ++ (wO G d sd q)) H := hP
          have hD : va_D A ((wO G a sc (gh_st (gh_st (gh_st C 10 (fun _ => q 10 0)) 11 (fun _ => q 11 0)) 12 (fun _ => q 12 0))) ++ (wO G d sd q)) := hD
          refine lv_aload_n hx hb dX0_takeOver_149 rfl (lv_at hl 0 rfl) ?_
          refine lv_aload_n hx hb dX0_takeOver_150 rfl (lv_at hl 1 rfl) ?_
          refine va_get (D := G.1) (ci := 0) (v := .int (q 13 0)) (C := RX0) (T := TX0) (N := 15) hx hb hts (fun w9 h9 => List.mem_cons_of_mem _ (List.mem_append_right _ h9)) hown hK hP 10 rfl rfl 13 (by decide) (hts (.fieldLink RX0 50 "GlassHarp$Orchestra" "inTune" "I") (List.mem_of_getElem? (i := 12) rfl)) (fun _ h9 => h9) rfl dX0_takeOver_151 ?_
          refine va_put (D := G.1) (ci := 0) (v := .int (q 13 0)) (ty := .int) (C := RX0) (T := TX0) (N := 15) hx hb hts (fun w9 h9 => List.mem_cons_of_mem _ (List.mem_append_right _ h9)) tyX0 tyX0_ok nmX0 hown hK hP hD hS 0 rfl rfl 13 (by decide) (hts (.fieldLink RX0 50 "GlassHarp$Orchestra" "inTune" "I") (List.mem_of_getElem? (i := 12) rfl)) (fun _ h9 => h9) rfl (tyX0_ok 13 (by decide)) rfl rfl (Nat.le_of_ble_eq_true rfl) dX0_takeOver_154 (fun H locs hP hD hS => ?_)
          have hP : va_P G.1 vwCl ((wO G a sc (gh_st (gh_st (gh_st (gh_st C 10 (fun _ => q 10 0)) 11 (fun _ => q 11 0)) 12 (fun _ => q 12 0)) 13 (fun _ => q 13 0))) ++ (wO G d sd q)) H := hP
          have hD : va_D A ((wO G a sc (gh_st (gh_st (gh_st (gh_st C 10 (fun _ => q 10 0)) 11 (fun _ => q 11 0)) 12 (fun _ => q 12 0)) 13 (fun _ => q 13 0))) ++ (wO G d sd q)) := hD
          refine lv_aload_n hx hb dX0_takeOver_157 rfl (lv_at hl 0 rfl) ?_
          refine lv_aload_n hx hb dX0_takeOver_158 rfl (lv_at hl 1 rfl) ?_
          refine va_get (D := G.1) (ci := 0) (v := .int (q 14 0)) (C := RX0) (T := TX0) (N := 15) hx hb hts (fun w9 h9 => List.mem_cons_of_mem _ (List.mem_append_right _ h9)) hown hK hP 10 rfl rfl 14 (by decide) (hts (.fieldLink RX0 53 "GlassHarp$Orchestra" "missed" "I") (List.mem_of_getElem? (i := 13) rfl)) (fun _ h9 => h9) rfl dX0_takeOver_159 ?_
          refine va_put (D := G.1) (ci := 0) (v := .int (q 14 0)) (ty := .int) (C := RX0) (T := TX0) (N := 15) hx hb hts (fun w9 h9 => List.mem_cons_of_mem _ (List.mem_append_right _ h9)) tyX0 tyX0_ok nmX0 hown hK hP hD hS 0 rfl rfl 14 (by decide) (hts (.fieldLink RX0 53 "GlassHarp$Orchestra" "missed" "I") (List.mem_of_getElem? (i := 13) rfl)) (fun _ h9 => h9) rfl (tyX0_ok 14 (by decide)) rfl rfl (Nat.le_of_ble_eq_true rfl) dX0_takeOver_162 (fun H locs hP hD hS => ?_)
          have hP : va_P G.1 vwCl ((wO G a sc (gh_st (gh_st (gh_st (gh_st (gh_st C 10 (fun _ => q 10 0)) 11 (fun _ => q 11 0)) 12 (fun _ => q 12 0)) 13 (fun _ => q 13 0)) 14 (fun _ => q 14 0))) ++ (wO G d sd q)) H := hP
          have hD : va_D A ((wO G a sc (gh_st (gh_st (gh_st (gh_st (gh_st C 10 (fun _ => q 10 0)) 11 (fun _ => q 11 0)) 12 (fun _ => q 12 0)) 13 (fun _ => q 13 0)) 14 (fun _ => q 14 0))) ++ (wO G d sd q)) := hD
          have hP9 : va_P G.1 vwCl ((wO G a sc (gh_to q o n)) ++ (wO G d sd q)) H := by
            have e9 : gh_st (gh_st (gh_st (gh_st (gh_st C 10 (fun _ => q 10 0)) 11 (fun _ => q 11 0)) 12 (fun _ => q 12 0)) 13 (fun _ => q 13 0)) 14 (fun _ => q 14 0) = gh_to q o n := by first | (simp only [gh_to, gh_tc, ← EB, ← EC, c_1, c_2, ↓reduceIte, if_true, if_false]; done) | (simp only [gh_to, gh_tc, ← EB, ← EC]; simp only [c_1, c_2, ↓reduceIte, if_true, if_false]; done) | (simp [gh_to, gh_tc, ← EB, ← EC, c_1, c_2, ↓reduceIte, if_true, if_false]; done)
            rw [← e9]
            exact hP
          exact W.vret hx hb hr (fun t9 ht hW => ⟨⟨(), rfl, trivial, gh_hp hP9 ht⟩, hS.F ht⟩) hS.2.2 dX0_takeOver_165
        · intro i hi_lo hi ih
          intro C EC H locs hP hD hS ls hl
          refine lv_iload_n hx hb dX0_takeOver_90 rfl (lv_at hl 2 rfl) ?_
          refine lv_iconst (v := 4) hx hb dX0_takeOver_91 (by decide) ?_
          refine lv_icmp_ge (tgt := 125) hx hb dX0_takeOver_92 (by decide) (fun c_3 => absurd c_3 (nI_ge hi (by decide))) (fun c_3 => ?_)
          refine lv_aload_n hx hb dX0_takeOver_95 rfl (lv_at hl 0 rfl) ?_
          refine va_get (D := G.1) (ci := 0) (v := .ref (a 8)) (C := RX0) (T := TX0) (N := 15) hx hb hts (fun w9 h9 => List.mem_cons_of_mem _ (List.mem_append_right _ h9)) hown hK hP 0 rfl rfl 8 (by decide) (hts (.fieldLink RX0 34 "GlassHarp$Orchestra" "air" "[I") (List.mem_of_getElem? (i := 8) rfl)) (fun _ h9 => h9) rfl dX0_takeOver_96 ?_
          refine lv_iload_n hx hb dX0_takeOver_99 rfl (lv_at hl 2 rfl) ?_
          refine lv_aload_n hx hb dX0_takeOver_100 rfl (lv_at hl 1 rfl) ?_
          refine va_get (D := G.1) (ci := 0) (v := .ref (d 8)) (C := RX0) (T := TX0) (N := 15) hx hb hts (fun w9 h9 => List.mem_cons_of_mem _ (List.mem_append_right _ h9)) hown hK hP 10 rfl rfl 8 (by decide) (hts (.fieldLink RX0 34 "GlassHarp$Orchestra" "air" "[I") (List.mem_of_getElem? (i := 8) rfl)) (fun _ h9 => h9) rfl dX0_takeOver_101 ?_
          refine lv_iload_n hx hb dX0_takeOver_104 rfl (lv_at hl 2 rfl) ?_
          refine gh_ia (f := q 8) hx hb hK hP 18 0 rfl rfl i (rfl) (by omega) (by decide) dX0_takeOver_105 ?_
          refine gh_is (f := C 8) (ws' := (wO G a sc (gh_st C 8 (upd (C 8) i (q 8 i)))) ++ (wO G d sd q)) hx hb hK hP hD hS 8 0 rfl rfl i (rfl) (by omega) (by decide) dX0_takeOver_106 rfl (fun H locs hP hD hS => ?_)
          refine lv_aload_n hx hb dX0_takeOver_107 rfl (lv_at hl 0 rfl) ?_
          refine va_get (D := G.1) (ci := 0) (v := .ref (a 9)) (C := RX0) (T := TX0) (N := 15) hx hb hts (fun w9 h9 => List.mem_cons_of_mem _ (List.mem_append_right _ h9)) hown hK hP 0 rfl rfl 9 (by decide) (hts (.fieldLink RX0 37 "GlassHarp$Orchestra" "pumps" "[I") (List.mem_of_getElem? (i := 9) rfl)) (fun _ h9 => h9) rfl dX0_takeOver_108 ?_
          refine lv_iload_n hx hb dX0_takeOver_111 rfl (lv_at hl 2 rfl) ?_
          refine lv_aload_n hx hb dX0_takeOver_112 rfl (lv_at hl 1 rfl) ?_
          refine va_get (D := G.1) (ci := 0) (v := .ref (d 9)) (C := RX0) (T := TX0) (N := 15) hx hb hts (fun w9 h9 => List.mem_cons_of_mem _ (List.mem_append_right _ h9)) hown hK hP 10 rfl rfl 9 (by decide) (hts (.fieldLink RX0 37 "GlassHarp$Orchestra" "pumps" "[I") (List.mem_of_getElem? (i := 9) rfl)) (fun _ h9 => h9) rfl dX0_takeOver_113 ?_
          refine lv_iload_n hx hb dX0_takeOver_116 rfl (lv_at hl 2 rfl) ?_
          refine gh_ia (f := q 9) hx hb hK hP 19 0 rfl rfl i (rfl) (by omega) (by decide) dX0_takeOver_117 ?_
          refine gh_is (f := C 9) (ws' := (wO G a sc (gh_st (gh_st C 8 (upd (C 8) i (q 8 i))) 9 (upd (C 9) i (q 9 i)))) ++ (wO G d sd q)) hx hb hK hP hD hS 9 0 rfl rfl i (rfl) (by omega) (by decide) dX0_takeOver_118 rfl (fun H locs hP hD hS => ?_)
          refine lv_iinc (v := nI (i + 1)) (lv' := [(2, .int (nI (i + 1))), (0, .ref (a 0)), (1, .ref (d 0))]) hx hb dX0_takeOver_119 hl (k := 2) rfl (nI_1 i) (by decide) rfl (fun ls hl => ?_)
          refine lv_goto (tgt := 90) hx hb dX0_takeOver_122 (by decide) ?_
          exact ih (gh_st (gh_st C 8 (upd (C 8) i (q 8 i))) 9 (upd (C 9) i (q 9 i))) (by first | (simp only [gh_ta, ← EB, ← EC, c_1, c_3, ↓reduceIte, if_true, if_false]; done) | (simp only [gh_ta, ← EB, ← EC]; simp only [c_1, c_3, ↓reduceIte, if_true, if_false]; done) | (simp [gh_ta, ← EB, ← EC, c_1, c_3, ↓reduceIte, if_true, if_false]; done)) _ _ hP hD hS _ (lv_sub hl [1, 2, 0] rfl)
      exact J90 B (by first | (simp only [gh_ta, ← EB, c_1, ↓reduceIte, if_true, if_false]; done) | (simp only [gh_ta, ← EB]; simp only [c_1, ↓reduceIte, if_true, if_false]; done) | (simp [gh_ta, ← EB, c_1, ↓reduceIte, if_true, if_false]; done)) _ _ hP hD hS _ (lv_sub hl [1, 2, 0] rfl)
    · intro i hi_lo hi ih
      intro B EB H locs hP hD hS ls hl
      refine lv_iload_n hx hb dX0_takeOver_2 rfl (lv_at hl 2 rfl) ?_
      refine lv_aload_n hx hb dX0_takeOver_3 rfl (lv_at hl 1 rfl) ?_
      refine va_get (D := G.1) (ci := 0) (v := .int (q 10 0)) (C := RX0) (T := TX0) (N := 15) hx hb hts (fun w9 h9 => List.mem_cons_of_mem _ (List.mem_append_right _ h9)) hown hK hP 10 rfl rfl 10 (by decide) (hts (.fieldLink RX0 40 "GlassHarp$Orchestra" "glasses" "I") (List.mem_of_getElem? (i := 1) rfl)) (fun _ h9 => h9) rfl dX0_takeOver_4 ?_
      refine gh_vv (y := nI n) (hn) ?_
      refine lv_icmp_ge (tgt := 88) hx hb dX0_takeOver_7 (by decide) (fun c_4 => absurd c_4 (nI_ge hi (Nat.lt_of_le_of_lt hn16 (by decide)))) (fun c_4 => ?_)
      refine lv_aload_n hx hb dX0_takeOver_10 rfl (lv_at hl 0 rfl) ?_
      refine va_get (D := G.1) (ci := 0) (v := .ref (a 1)) (C := RX0) (T := TX0) (N := 15) hx hb hts (fun w9 h9 => List.mem_cons_of_mem _ (List.mem_append_right _ h9)) hown hK hP 0 rfl rfl 1 (by decide) (hts (.fieldLink RX0 9 "GlassHarp$Orchestra" "rows" "[I") (List.mem_of_getElem? (i := 2) rfl)) (fun _ h9 => h9) rfl dX0_takeOver_11 ?_
      refine lv_iload_n hx hb dX0_takeOver_14 rfl (lv_at hl 2 rfl) ?_
      refine lv_aload_n hx hb dX0_takeOver_15 rfl (lv_at hl 1 rfl) ?_
      refine va_get (D := G.1) (ci := 0) (v := .ref (d 1)) (C := RX0) (T := TX0) (N := 15) hx hb hts (fun w9 h9 => List.mem_cons_of_mem _ (List.mem_append_right _ h9)) hown hK hP 10 rfl rfl 1 (by decide) (hts (.fieldLink RX0 9 "GlassHarp$Orchestra" "rows" "[I") (List.mem_of_getElem? (i := 2) rfl)) (fun _ h9 => h9) rfl dX0_takeOver_16 ?_
      refine lv_iload_n hx hb dX0_takeOver_19 rfl (lv_at hl 2 rfl) ?_
      refine gh_ia (f := q 1) hx hb hK hP 11 0 rfl rfl i (rfl) (by omega) (by decide) dX0_takeOver_20 ?_
      refine gh_is (f := B 1) (ws' := (wO G a sc (gh_st B 1 (upd (B 1) i (q 1 i)))) ++ (wO G d sd q)) hx hb hK hP hD hS 1 0 rfl rfl i (rfl) (by omega) (by decide) dX0_takeOver_21 rfl (fun H locs hP hD hS => ?_)
      refine lv_aload_n hx hb dX0_takeOver_22 rfl (lv_at hl 0 rfl) ?_
      refine va_get (D := G.1) (ci := 0) (v := .ref (a 2)) (C := RX0) (T := TX0) (N := 15) hx hb hts (fun w9 h9 => List.mem_cons_of_mem _ (List.mem_append_right _ h9)) hown hK hP 0 rfl rfl 2 (by decide) (hts (.fieldLink RX0 15 "GlassHarp$Orchestra" "sizes" "[I") (List.mem_of_getElem? (i := 3) rfl)) (fun _ h9 => h9) rfl dX0_takeOver_23 ?_
      refine lv_iload_n hx hb dX0_takeOver_26 rfl (lv_at hl 2 rfl) ?_
      refine lv_aload_n hx hb dX0_takeOver_27 rfl (lv_at hl 1 rfl) ?_
      refine va_get (D := G.1) (ci := 0) (v := .ref (d 2)) (C := RX0) (T := TX0) (N := 15) hx hb hts (fun w9 h9 => List.mem_cons_of_mem _ (List.mem_append_right _ h9)) hown hK hP 10 rfl rfl 2 (by decide) (hts (.fieldLink RX0 15 "GlassHarp$Orchestra" "sizes" "[I") (List.mem_of_getElem? (i := 3) rfl)) (fun _ h9 => h9) rfl dX0_takeOver_28 ?_
      refine lv_iload_n hx hb dX0_takeOver_31 rfl (lv_at hl 2 rfl) ?_
      refine gh_ia (f := q 2) hx hb hK hP 12 0 rfl rfl i (rfl) (by omega) (by decide) dX0_takeOver_32 ?_
      refine gh_is (f := B 2) (ws' := (wO G a sc (gh_st (gh_st B 1 (upd (B 1) i (q 1 i))) 2 (upd (B 2) i (q 2 i)))) ++ (wO G d sd q)) hx hb hK hP hD hS 2 0 rfl rfl i (rfl) (by omega) (by decide) dX0_takeOver_33 rfl (fun H locs hP hD hS => ?_)
      refine lv_aload_n hx hb dX0_takeOver_34 rfl (lv_at hl 0 rfl) ?_
      refine va_get (D := G.1) (ci := 0) (v := .ref (a 3)) (C := RX0) (T := TX0) (N := 15) hx hb hts (fun w9 h9 => List.mem_cons_of_mem _ (List.mem_append_right _ h9)) hown hK hP 0 rfl rfl 3 (by decide) (hts (.fieldLink RX0 18 "GlassHarp$Orchestra" "drops" "[I") (List.mem_of_getElem? (i := 4) rfl)) (fun _ h9 => h9) rfl dX0_takeOver_35 ?_
      refine lv_iload_n hx hb dX0_takeOver_38 rfl (lv_at hl 2 rfl) ?_
      refine lv_aload_n hx hb dX0_takeOver_39 rfl (lv_at hl 1 rfl) ?_
      refine va_get (D := G.1) (ci := 0) (v := .ref (d 3)) (C := RX0) (T := TX0) (N := 15) hx hb hts (fun w9 h9 => List.mem_cons_of_mem _ (List.mem_append_right _ h9)) hown hK hP 10 rfl rfl 3 (by decide) (hts (.fieldLink RX0 18 "GlassHarp$Orchestra" "drops" "[I") (List.mem_of_getElem? (i := 4) rfl)) (fun _ h9 => h9) rfl dX0_takeOver_40 ?_
      refine lv_iload_n hx hb dX0_takeOver_43 rfl (lv_at hl 2 rfl) ?_
      refine gh_ia (f := q 3) hx hb hK hP 13 0 rfl rfl i (rfl) (by omega) (by decide) dX0_takeOver_44 ?_
      refine gh_is (f := B 3) (ws' := (wO G a sc (gh_st (gh_st (gh_st B 1 (upd (B 1) i (q 1 i))) 2 (upd (B 2) i (q 2 i))) 3 (upd (B 3) i (q 3 i)))) ++ (wO G d sd q)) hx hb hK hP hD hS 3 0 rfl rfl i (rfl) (by omega) (by decide) dX0_takeOver_45 rfl (fun H locs hP hD hS => ?_)
      refine lv_aload_n hx hb dX0_takeOver_46 rfl (lv_at hl 0 rfl) ?_
      refine va_get (D := G.1) (ci := 0) (v := .ref (a 4)) (C := RX0) (T := TX0) (N := 15) hx hb hts (fun w9 h9 => List.mem_cons_of_mem _ (List.mem_append_right _ h9)) hown hK hP 0 rfl rfl 4 (by decide) (hts (.fieldLink RX0 21 "GlassHarp$Orchestra" "cracked" "[Z") (List.mem_of_getElem? (i := 5) rfl)) (fun _ h9 => h9) rfl dX0_takeOver_47 ?_
      refine lv_iload_n hx hb dX0_takeOver_50 rfl (lv_at hl 2 rfl) ?_
      refine lv_aload_n hx hb dX0_takeOver_51 rfl (lv_at hl 1 rfl) ?_
      refine va_get (D := G.1) (ci := 0) (v := .ref (d 4)) (C := RX0) (T := TX0) (N := 15) hx hb hts (fun w9 h9 => List.mem_cons_of_mem _ (List.mem_append_right _ h9)) hown hK hP 10 rfl rfl 4 (by decide) (hts (.fieldLink RX0 21 "GlassHarp$Orchestra" "cracked" "[Z") (List.mem_of_getElem? (i := 5) rfl)) (fun _ h9 => h9) rfl dX0_takeOver_52 ?_
      refine lv_iload_n hx hb dX0_takeOver_55 rfl (lv_at hl 2 rfl) ?_
      refine gh_za (f := q 4) hx hb hK hP 14 1 rfl rfl i (rfl) (by omega) (by decide) dX0_takeOver_56 ?_
      refine gh_zs (f := B 4) (ws' := (wO G a sc (gh_st (gh_st (gh_st (gh_st B 1 (upd (B 1) i (q 1 i))) 2 (upd (B 2) i (q 2 i))) 3 (upd (B 3) i (q 3 i))) 4 (upd (B 4) i (vp_nar .boolean (q 4 i))))) ++ (wO G d sd q)) hx hb hK hP hD hS 4 1 rfl rfl i (rfl) (by omega) (by decide) dX0_takeOver_57 (rfl) rfl (fun H locs hP hD hS => ?_)
      refine lv_aload_n hx hb dX0_takeOver_58 rfl (lv_at hl 0 rfl) ?_
      refine va_get (D := G.1) (ci := 0) (v := .ref (a 5)) (C := RX0) (T := TX0) (N := 15) hx hb hts (fun w9 h9 => List.mem_cons_of_mem _ (List.mem_append_right _ h9)) hown hK hP 0 rfl rfl 5 (by decide) (hts (.fieldLink RX0 25 "GlassHarp$Orchestra" "rings" "[I") (List.mem_of_getElem? (i := 6) rfl)) (fun _ h9 => h9) rfl dX0_takeOver_59 ?_
      refine lv_iload_n hx hb dX0_takeOver_62 rfl (lv_at hl 2 rfl) ?_
      refine lv_aload_n hx hb dX0_takeOver_63 rfl (lv_at hl 1 rfl) ?_
      refine va_get (D := G.1) (ci := 0) (v := .ref (d 5)) (C := RX0) (T := TX0) (N := 15) hx hb hts (fun w9 h9 => List.mem_cons_of_mem _ (List.mem_append_right _ h9)) hown hK hP 10 rfl rfl 5 (by decide) (hts (.fieldLink RX0 25 "GlassHarp$Orchestra" "rings" "[I") (List.mem_of_getElem? (i := 6) rfl)) (fun _ h9 => h9) rfl dX0_takeOver_64 ?_
      refine lv_iload_n hx hb dX0_takeOver_67 rfl (lv_at hl 2 rfl) ?_
      refine gh_ia (f := q 5) hx hb hK hP 15 0 rfl rfl i (rfl) (by omega) (by decide) dX0_takeOver_68 ?_
      refine gh_is (f := B 5) (ws' := (wO G a sc (gh_st (gh_st (gh_st (gh_st (gh_st B 1 (upd (B 1) i (q 1 i))) 2 (upd (B 2) i (q 2 i))) 3 (upd (B 3) i (q 3 i))) 4 (upd (B 4) i (vp_nar .boolean (q 4 i)))) 5 (upd (B 5) i (q 5 i)))) ++ (wO G d sd q)) hx hb hK hP hD hS 5 0 rfl rfl i (rfl) (by omega) (by decide) dX0_takeOver_69 rfl (fun H locs hP hD hS => ?_)
      refine lv_aload_n hx hb dX0_takeOver_70 rfl (lv_at hl 0 rfl) ?_
      refine va_get (D := G.1) (ci := 0) (v := .ref (a 6)) (C := RX0) (T := TX0) (N := 15) hx hb hts (fun w9 h9 => List.mem_cons_of_mem _ (List.mem_append_right _ h9)) hown hK hP 0 rfl rfl 6 (by decide) (hts (.fieldLink RX0 28 "GlassHarp$Orchestra" "plays" "[I") (List.mem_of_getElem? (i := 7) rfl)) (fun _ h9 => h9) rfl dX0_takeOver_71 ?_
      refine lv_iload_n hx hb dX0_takeOver_74 rfl (lv_at hl 2 rfl) ?_
      refine lv_aload_n hx hb dX0_takeOver_75 rfl (lv_at hl 1 rfl) ?_
      refine va_get (D := G.1) (ci := 0) (v := .ref (d 6)) (C := RX0) (T := TX0) (N := 15) hx hb hts (fun w9 h9 => List.mem_cons_of_mem _ (List.mem_append_right _ h9)) hown hK hP 10 rfl rfl 6 (by decide) (hts (.fieldLink RX0 28 "GlassHarp$Orchestra" "plays" "[I") (List.mem_of_getElem? (i := 7) rfl)) (fun _ h9 => h9) rfl dX0_takeOver_76 ?_
      refine lv_iload_n hx hb dX0_takeOver_79 rfl (lv_at hl 2 rfl) ?_
      refine gh_ia (f := q 6) hx hb hK hP 16 0 rfl rfl i (rfl) (by omega) (by decide) dX0_takeOver_80 ?_
      refine gh_is (f := B 6) (ws' := (wO G a sc (gh_st (gh_st (gh_st (gh_st (gh_st (gh_st B 1 (upd (B 1) i (q 1 i))) 2 (upd (B 2) i (q 2 i))) 3 (upd (B 3) i (q 3 i))) 4 (upd (B 4) i (vp_nar .boolean (q 4 i)))) 5 (upd (B 5) i (q 5 i))) 6 (upd (B 6) i (q 6 i)))) ++ (wO G d sd q)) hx hb hK hP hD hS 6 0 rfl rfl i (rfl) (by omega) (by decide) dX0_takeOver_81 rfl (fun H locs hP hD hS => ?_)
      refine lv_iinc (v := nI (i + 1)) (lv' := [(2, .int (nI (i + 1))), (0, .ref (a 0)), (1, .ref (d 0))]) hx hb dX0_takeOver_82 hl (k := 2) rfl (nI_1 i) (by decide) rfl (fun ls hl => ?_)
      refine lv_goto (tgt := 2) hx hb dX0_takeOver_85 (by decide) ?_
      exact ih (gh_st (gh_st (gh_st (gh_st (gh_st (gh_st B 1 (upd (B 1) i (q 1 i))) 2 (upd (B 2) i (q 2 i))) 3 (upd (B 3) i (q 3 i))) 4 (upd (B 4) i (vp_nar .boolean (q 4 i)))) 5 (upd (B 5) i (q 5 i))) 6 (upd (B 6) i (q 6 i))) (by first | (simp only [gh_tk, ← EB, c_4, ↓reduceIte, if_true, if_false]; done) | (simp only [gh_tk, ← EB]; simp only [c_4, ↓reduceIte, if_true, if_false]; done) | (simp [gh_tk, ← EB, c_4, ↓reduceIte, if_true, if_false]; done)) _ _ hP hD hS _ (lv_sub hl [1, 2, 0] rfl)
  exact J2 o (by first | (simp only [gh_tk, ↓reduceIte, if_true, if_false]; done) | (simp only [gh_tk, ↓reduceIte, if_true, if_false]; rfl) | (simp [gh_tk, ↓reduceIte, if_true, if_false]; done)) _ _ hP hD hS _ (lv_sub hl [1, 2, 0] rfl)
set_option maxHeartbeats 4000000 in
set_option maxRecDepth 100000 in
theorem c_X0_addGlass (l : Launch) (G : gh_G) (sz : Nat) (a : Nat → Nat) (sc : Nat) (o : gh_B) (n : Nat) (r : Int32) (x : Int32) (y : Int32) (hn : o 10 0 = nI n) (hn16 : n ≤ 16) : Met l yX0_addGlass wsX0_addGlass ({ frames := 0, cells := 0, slots := 0, locals := 0 } : Room) (gh_w G [.ref (a 0), .int r, .int x, .int y] (wO G a sc o) sz) (va_Qi (fun (r9 : Int32) (_ : Unit) => r9 = if nI n < 16 then nI n else -1) (fun _ t9 => va_P G.1 vwCl (wO G a sc (gh_ad o n r x y)) t9.heap) (va_A (wO G a sc o) sz)) 0 0 (va_A (wO G a sc o) sz) := by
  refine Met.ofW (cc := cX0_addGlass) (maxL := 5) (ret := (some .int)) (by decide) rfl ?_
  intro p e s m args below meth c s₁ B hml hv
  obtain ⟨rfl, hsz, hP, hE, hD0⟩ := hv
  have hx := B.exec
  have hb := B.bytes
  have hr := B.returns
  have hts := atoms_spec (ws := wsX0_addGlass) B.pre
  have hown : s.vm.findClass RX0 = some m.cls := findClass_of_methodNamed B.named
  have hlocks := B.notSynchronized
  have hK := hE.1
  subst hsz
  have hD := hD0.self (sz := s.heap.size)
  generalize hAe : va_A (wO G a sc o) s.heap.size = A at hD ⊢
  have hA : ∀ q : Nat, s.heap.size ≤ q → A q := fun q h => by rw [← hAe]; exact Or.inr h
  have hS : va_S A s.heap s.heap [] := va_S.rf
  have hl := lv_entry ([.ref (a 0), .int r, .int x, .int y]) (n := 5) (Nat.le_of_ble_eq_true rfl)
  rw [lg_entry_eq]
  generalize (lg_sl ([.ref (a 0), .int r, .int x, .int y]) ++ List.replicate (5 - (lg_sl ([.ref (a 0), .int r, .int x, .int y])).length) Slot.unset).toArray = ls at hl ⊢
  have hl : lv_has ls 5 [(0, .ref (a 0)), (1, .int r), (2, .int x), (3, .int y)] := hl
  refine lv_aload_n hx hb dX0_addGlass_0 rfl (lv_at hl 0 rfl) ?_
  refine va_get (D := G.1) (ci := 0) (v := .int (o 10 0)) (C := RX0) (T := TX0) (N := 15) hx hb hts (fun w9 h9 => List.mem_cons_of_mem _ (List.mem_append_right _ h9)) hown hK hP 0 rfl rfl 10 (by decide) (hts (.fieldLink RX0 40 "GlassHarp$Orchestra" "glasses" "I") (List.mem_of_getElem? (i := 1) rfl)) (fun _ h9 => h9) rfl dX0_addGlass_1 ?_
  refine gh_vv (y := nI n) (hn) ?_
  refine lv_bipush (v := 16) hx hb dX0_addGlass_4 (by decide) ?_
  refine lv_icmp_lt (tgt := 11) hx hb dX0_addGlass_6 (by decide) (fun c_1 => ?_) (fun c_1 => ?_)
  · skip
    have hnn : n < 16 := gh_lt_n c_1 rfl (Nat.lt_of_le_of_lt hn16 (by decide)) (by decide)
    refine lv_aload_n hx hb dX0_addGlass_11 rfl (lv_at hl 0 rfl) ?_
    refine va_get (D := G.1) (ci := 0) (v := .int (o 10 0)) (C := RX0) (T := TX0) (N := 15) hx hb hts (fun w9 h9 => List.mem_cons_of_mem _ (List.mem_append_right _ h9)) hown hK hP 0 rfl rfl 10 (by decide) (hts (.fieldLink RX0 40 "GlassHarp$Orchestra" "glasses" "I") (List.mem_of_getElem? (i := 1) rfl)) (fun _ h9 => h9) rfl dX0_addGlass_12 ?_
    refine gh_vv (y := nI n) (hn) ?_
    refine lv_istore (lv' := [(4, .int (nI n)), (0, .ref (a 0)), (1, .int r), (2, .int x), (3, .int y)]) hx hb dX0_addGlass_15 hl (by decide) rfl (fun ls hl => ?_)
    refine lv_aload_n hx hb dX0_addGlass_17 rfl (lv_at hl 1 rfl) ?_
    refine va_get (D := G.1) (ci := 0) (v := .ref (a 1)) (C := RX0) (T := TX0) (N := 15) hx hb hts (fun w9 h9 => List.mem_cons_of_mem _ (List.mem_append_right _ h9)) hown hK hP 0 rfl rfl 1 (by decide) (hts (.fieldLink RX0 9 "GlassHarp$Orchestra" "rows" "[I") (List.mem_of_getElem? (i := 2) rfl)) (fun _ h9 => h9) rfl dX0_addGlass_18 ?_
    refine lv_iload hx hb dX0_addGlass_21 (lv_at hl 0 rfl) ?_
    refine lv_iload_n hx hb dX0_addGlass_23 rfl (lv_at hl 2 rfl) ?_
    refine gh_is (f := o 1) (ws' := wO G a sc (gh_st o 1 (upd (o 1) n r))) hx hb hK hP hD hS 1 0 rfl rfl n (rfl) (by omega) (by decide) dX0_addGlass_24 rfl (fun H locs hP hD hS => ?_)
    refine lv_aload_n hx hb dX0_addGlass_25 rfl (lv_at hl 1 rfl) ?_
    refine va_get (D := G.1) (ci := 0) (v := .ref (a 2)) (C := RX0) (T := TX0) (N := 15) hx hb hts (fun w9 h9 => List.mem_cons_of_mem _ (List.mem_append_right _ h9)) hown hK hP 0 rfl rfl 2 (by decide) (hts (.fieldLink RX0 15 "GlassHarp$Orchestra" "sizes" "[I") (List.mem_of_getElem? (i := 3) rfl)) (fun _ h9 => h9) rfl dX0_addGlass_26 ?_
    refine lv_iload hx hb dX0_addGlass_29 (lv_at hl 0 rfl) ?_
    refine lv_iload_n hx hb dX0_addGlass_31 rfl (lv_at hl 3 rfl) ?_
    refine gh_is (f := o 2) (ws' := wO G a sc (gh_st (gh_st o 1 (upd (o 1) n r)) 2 (upd (o 2) n x))) hx hb hK hP hD hS 2 0 rfl rfl n (rfl) (by omega) (by decide) dX0_addGlass_32 rfl (fun H locs hP hD hS => ?_)
    refine lv_aload_n hx hb dX0_addGlass_33 rfl (lv_at hl 1 rfl) ?_
    refine va_get (D := G.1) (ci := 0) (v := .ref (a 3)) (C := RX0) (T := TX0) (N := 15) hx hb hts (fun w9 h9 => List.mem_cons_of_mem _ (List.mem_append_right _ h9)) hown hK hP 0 rfl rfl 3 (by decide) (hts (.fieldLink RX0 18 "GlassHarp$Orchestra" "drops" "[I") (List.mem_of_getElem? (i := 4) rfl)) (fun _ h9 => h9) rfl dX0_addGlass_34 ?_
    refine lv_iload hx hb dX0_addGlass_37 (lv_at hl 0 rfl) ?_
    refine lv_iload_n hx hb dX0_addGlass_39 rfl (lv_at hl 4 rfl) ?_
    refine gh_is (f := o 3) (ws' := wO G a sc (gh_st (gh_st (gh_st o 1 (upd (o 1) n r)) 2 (upd (o 2) n x)) 3 (upd (o 3) n y))) hx hb hK hP hD hS 3 0 rfl rfl n (rfl) (by omega) (by decide) dX0_addGlass_40 rfl (fun H locs hP hD hS => ?_)
    refine lv_aload_n hx hb dX0_addGlass_41 rfl (lv_at hl 1 rfl) ?_
    refine lv_dup hx hb dX0_addGlass_42 rfl ?_
    refine va_get (D := G.1) (ci := 0) (v := .int (o 10 0)) (C := RX0) (T := TX0) (N := 15) hx hb hts (fun w9 h9 => List.mem_cons_of_mem _ (List.mem_append_right _ h9)) hown hK hP 0 rfl rfl 10 (by decide) (hts (.fieldLink RX0 40 "GlassHarp$Orchestra" "glasses" "I") (List.mem_of_getElem? (i := 1) rfl)) (fun _ h9 => h9) rfl dX0_addGlass_43 ?_
    refine gh_vv (y := nI n) (hn) ?_
    refine lv_iconst (v := 1) hx hb dX0_addGlass_46 (by decide) ?_
    refine lv_iadd hx hb dX0_addGlass_47 ?_
    refine gh_vv (y := nI (n + 1)) (nI_1 n) ?_
    refine va_put (D := G.1) (ci := 0) (v := .int (nI (n + 1))) (ty := .int) (C := RX0) (T := TX0) (N := 15) hx hb hts (fun w9 h9 => List.mem_cons_of_mem _ (List.mem_append_right _ h9)) tyX0 tyX0_ok nmX0 hown hK hP hD hS 0 rfl rfl 10 (by decide) (hts (.fieldLink RX0 40 "GlassHarp$Orchestra" "glasses" "I") (List.mem_of_getElem? (i := 1) rfl)) (fun _ h9 => h9) rfl (tyX0_ok 10 (by decide)) rfl rfl (Nat.le_of_ble_eq_true rfl) dX0_addGlass_48 (fun H locs hP hD hS => ?_)
    have hP : va_P G.1 vwCl (wO G a sc (gh_st (gh_st (gh_st (gh_st o 1 (upd (o 1) n r)) 2 (upd (o 2) n x)) 3 (upd (o 3) n y)) 10 (fun _ => nI (n + 1)))) H := hP
    have hD : va_D A (wO G a sc (gh_st (gh_st (gh_st (gh_st o 1 (upd (o 1) n r)) 2 (upd (o 2) n x)) 3 (upd (o 3) n y)) 10 (fun _ => nI (n + 1)))) := hD
    refine lv_iload hx hb dX0_addGlass_51 (lv_at hl 0 rfl) ?_
    have hP9 : va_P G.1 vwCl (wO G a sc (gh_ad o n r x y)) H := by
      have e9 : gh_st (gh_st (gh_st (gh_st o 1 (upd (o 1) n r)) 2 (upd (o 2) n x)) 3 (upd (o 3) n y)) 10 (fun _ => nI (n + 1)) = gh_ad o n r x y := by first | (simp only [gh_ad, c_1, ↓reduceIte, if_true, if_false]; done) | (simp only [gh_ad]; simp only [c_1, ↓reduceIte, if_true, if_false]; done) | (simp [gh_ad, c_1, ↓reduceIte, if_true, if_false]; done)
      rw [← e9]
      exact hP
    exact W.iret (v := nI n) hx hb hr (fun t9 ht hW => ⟨⟨nI n, (), rfl, by first | (simp only [gh_ad, c_1, ↓reduceIte, if_true, if_false]; done) | (simp only [gh_ad]; simp only [c_1, ↓reduceIte, if_true, if_false]; done) | (simp [gh_ad, c_1, ↓reduceIte, if_true, if_false]; done), gh_hp hP9 ht⟩, hS.F ht⟩) hS.2.2 dX0_addGlass_53
  · skip
    refine lv_iconst (v := (-1)) hx hb dX0_addGlass_9 (by decide) ?_
    have hP9 : va_P G.1 vwCl (wO G a sc (gh_ad o n r x y)) s.heap := by
      have e9 : o = gh_ad o n r x y := by first | (simp only [gh_ad, c_1, ↓reduceIte, if_true, if_false]; done) | (simp only [gh_ad]; simp only [c_1, ↓reduceIte, if_true, if_false]; done) | (simp [gh_ad, c_1, ↓reduceIte, if_true, if_false]; done)
      rw [← e9]
      exact hP
    exact W.iret (v := (-1)) hx hb hr (fun t9 ht hW => ⟨⟨(-1), (), rfl, by first | (simp only [gh_ad, c_1, ↓reduceIte, if_true, if_false]; done) | (simp only [gh_ad]; simp only [c_1, ↓reduceIte, if_true, if_false]; done) | (simp [gh_ad, c_1, ↓reduceIte, if_true, if_false]; done), gh_hp hP9 ht⟩, hS.F ht⟩) hS.2.2 dX0_addGlass_10
set_option maxHeartbeats 4000000 in
set_option maxRecDepth 100000 in
theorem c_X0_tuneTo (l : Launch) (G : gh_G) (sz : Nat) (a : Nat → Nat) (sc : Nat) (o : gh_B) (n : Nat) (k : Nat) (t : Int32) (hn : o 10 0 = nI n) (hn16 : n ≤ 16) (hk : k < n) : Met l yX0_tuneTo wsX0_tuneTo ({ frames := 4, cells := 0, slots := 0, locals := 88 } : Room) (gh_w G [.ref (a 0), .int (nI k), .int t] (wO G a sc o) sz) (va_Qv (fun _ : Unit => True) (fun _ t9 => va_P G.1 vwCl (wO G a sc (gh_tu o k t)) t9.heap) (va_A (wO G a sc o) sz)) 0 0 (va_A (wO G a sc o) sz) := by
  refine Met.ofW (cc := cX0_tuneTo) (maxL := 3) (ret := none) (by decide) rfl ?_
  intro p e s m args below meth c s₁ B hml hv
  obtain ⟨rfl, hsz, hP, hE, hD0⟩ := hv
  have hx := B.exec
  have hb := B.bytes
  have hr := B.returns
  have hts := atoms_spec (ws := wsX0_tuneTo) B.pre
  have hown : s.vm.findClass RX0 = some m.cls := findClass_of_methodNamed B.named
  have hlocks := B.notSynchronized
  have hK := hE.1
  subst hsz
  have hD := hD0.self (sz := s.heap.size)
  generalize hAe : va_A (wO G a sc o) s.heap.size = A at hD ⊢
  have hA : ∀ q : Nat, s.heap.size ≤ q → A q := fun q h => by rw [← hAe]; exact Or.inr h
  have hS : va_S A s.heap s.heap [] := va_S.rf
  have hl := lv_entry ([.ref (a 0), .int (nI k), .int t]) (n := 3) (Nat.le_of_ble_eq_true rfl)
  rw [lg_entry_eq]
  generalize (lg_sl ([.ref (a 0), .int (nI k), .int t]) ++ List.replicate (3 - (lg_sl ([.ref (a 0), .int (nI k), .int t])).length) Slot.unset).toArray = ls at hl ⊢
  have hl : lv_has ls 3 [(0, .ref (a 0)), (1, .int (nI k)), (2, .int t)] := hl
  refine lv_aload_n hx hb dX0_tuneTo_0 rfl (lv_at hl 0 rfl) ?_
  refine lv_iload_n hx hb dX0_tuneTo_1 rfl (lv_at hl 1 rfl) ?_
  refine lv_iload_n hx hb dX0_tuneTo_2 rfl (lv_at hl 2 rfl) ?_
  refine gh_ci (va_runV (As := [.int (nI k), .int t]) (rest := []) ⟨hx, hb, hml, hown, hts⟩ (c_X0_canBeTuned l G a sc o n k t (hn) (hn16) (hk)) (cwV 2 hts gX0_tuneTo_X0_canBeTuned rfl rfl rfl ⟨rfl, hdS_X0_canBeTuned⟩ ⟨Nat.le_of_ble_eq_true rfl, Nat.le_of_ble_eq_true rfl⟩) (gh_rV hE hP (ci := 0) (q0 := 0) rfl rfl) rfl rfl hl.1 rfl (lv_room (Nat.le_of_ble_eq_true rfl)) dX0_tuneTo_3 ⟨Nat.le_of_ble_eq_true rfl, Nat.le_of_ble_eq_true rfl⟩) ?_
  refine lv_if_eq (tgt := 21) hx hb dX0_tuneTo_6 (by decide) (fun c_1 => ?_) (fun c_1 => ?_)
  · skip
    have hP9 : va_P G.1 vwCl (wO G a sc (gh_tu o k t)) s.heap := by
      have e9 : o = gh_tu o k t := by first | (simp only [gh_tu, c_1, ↓reduceIte, if_true, if_false]; done) | (simp only [gh_tu]; simp only [c_1, ↓reduceIte, if_true, if_false]; done) | (simp [gh_tu, c_1, ↓reduceIte, if_true, if_false]; done)
      rw [← e9]
      exact hP
    exact W.vret hx hb hr (fun t9 ht hW => ⟨⟨(), rfl, trivial, gh_hp hP9 ht⟩, hS.F ht⟩) hS.2.2 dX0_tuneTo_21
  · skip
    refine lv_aload_n hx hb dX0_tuneTo_9 rfl (lv_at hl 0 rfl) ?_
    refine va_get (D := G.1) (ci := 0) (v := .ref (a 3)) (C := RX0) (T := TX0) (N := 15) hx hb hts (fun w9 h9 => List.mem_cons_of_mem _ (List.mem_append_right _ h9)) hown hK hP 0 rfl rfl 3 (by decide) (hts (.fieldLink RX0 18 "GlassHarp$Orchestra" "drops" "[I") (List.mem_of_getElem? (i := 1) rfl)) (fun _ h9 => h9) rfl dX0_tuneTo_10 ?_
    refine lv_iload_n hx hb dX0_tuneTo_13 rfl (lv_at hl 1 rfl) ?_
    refine lv_aload_n hx hb dX0_tuneTo_14 rfl (lv_at hl 0 rfl) ?_
    refine lv_iload_n hx hb dX0_tuneTo_15 rfl (lv_at hl 1 rfl) ?_
    refine lv_iload_n hx hb dX0_tuneTo_16 rfl (lv_at hl 2 rfl) ?_
    refine gh_ci (va_runV (As := [.int (nI k), .int t]) (rest := [.int (nI k), .ref (a 3)]) ⟨hx, hb, hml, hown, hts⟩ (c_X0_fewestDropsFor l G a sc o n k t (hn) (hn16) (hk)) (cwV 2 hts gX0_tuneTo_X0_fewestDropsFor rfl rfl rfl ⟨rfl, hdS_X0_fewestDropsFor⟩ ⟨Nat.le_of_ble_eq_true rfl, Nat.le_of_ble_eq_true rfl⟩) (gh_rV hE hP (ci := 0) (q0 := 0) rfl rfl) rfl rfl hl.1 rfl (lv_room (Nat.le_of_ble_eq_true rfl)) dX0_tuneTo_17 ⟨Nat.le_of_ble_eq_true rfl, Nat.le_of_ble_eq_true rfl⟩) ?_
    refine gh_is (f := o 3) (ws' := wO G a sc (gh_st o 3 (upd (o 3) k (gh_fw o k t)))) hx hb hK hP hD hS 3 0 rfl rfl k (rfl) (by omega) (by decide) dX0_tuneTo_20 rfl (fun H locs hP hD hS => ?_)
    have hP9 : va_P G.1 vwCl (wO G a sc (gh_tu o k t)) H := by
      have e9 : gh_st o 3 (upd (o 3) k (gh_fw o k t)) = gh_tu o k t := by first | (simp only [gh_tu, c_1, ↓reduceIte, if_true, if_false]; done) | (simp only [gh_tu]; simp only [c_1, ↓reduceIte, if_true, if_false]; done) | (simp [gh_tu, c_1, ↓reduceIte, if_true, if_false]; done)
      rw [← e9]
      exact hP
    exact W.vret hx hb hr (fun t9 ht hW => ⟨⟨(), rfl, trivial, gh_hp hP9 ht⟩, hS.F ht⟩) hS.2.2 dX0_tuneTo_21
set_option maxHeartbeats 4000000 in
set_option maxRecDepth 100000 in
theorem c_X0_setPump (l : Launch) (G : gh_G) (sz : Nat) (a : Nat → Nat) (sc : Nat) (o : gh_B) (r : Int32) (v : Int32)  : Met l yX0_setPump wsX0_setPump ({ frames := 1, cells := 0, slots := 0, locals := 22 } : Room) (gh_w G [.ref (a 0), .int r, .int v] (wO G a sc o) sz) (va_Qv (fun _ : Unit => True) (fun _ t9 => va_P G.1 vwCl (wO G a sc (gh_sp o r v)) t9.heap) (va_A (wO G a sc o) sz)) 0 0 (va_A (wO G a sc o) sz) := by
  refine Met.ofW (cc := cX0_setPump) (maxL := 3) (ret := none) (by decide) rfl ?_
  intro p e s m args below meth c s₁ B hml hv
  obtain ⟨rfl, hsz, hP, hE, hD0⟩ := hv
  have hx := B.exec
  have hb := B.bytes
  have hr := B.returns
  have hts := atoms_spec (ws := wsX0_setPump) B.pre
  have hown : s.vm.findClass RX0 = some m.cls := findClass_of_methodNamed B.named
  have hlocks := B.notSynchronized
  have hK := hE.1
  subst hsz
  have hD := hD0.self (sz := s.heap.size)
  generalize hAe : va_A (wO G a sc o) s.heap.size = A at hD ⊢
  have hA : ∀ q : Nat, s.heap.size ≤ q → A q := fun q h => by rw [← hAe]; exact Or.inr h
  have hS : va_S A s.heap s.heap [] := va_S.rf
  have hl := lv_entry ([.ref (a 0), .int r, .int v]) (n := 3) (Nat.le_of_ble_eq_true rfl)
  rw [lg_entry_eq]
  generalize (lg_sl ([.ref (a 0), .int r, .int v]) ++ List.replicate (3 - (lg_sl ([.ref (a 0), .int r, .int v])).length) Slot.unset).toArray = ls at hl ⊢
  have hl : lv_has ls 3 [(0, .ref (a 0)), (1, .int r), (2, .int v)] := hl
  refine lv_iload_n hx hb dX0_setPump_0 rfl (lv_at hl 1 rfl) ?_
  refine lv_iconst (v := 0) hx hb dX0_setPump_1 (by decide) ?_
  refine lv_iconst (v := 3) hx hb dX0_setPump_2 (by decide) ?_
  refine gh_ci (va_runSN (As := [.int r, .int 0, .int 3]) (rest := []) ⟨hx, hb, hml, hown, hts⟩ (c_X2_isWithin l G r 0 3) ⟨va_cnB 3 hts gX0_setPump_X2_isWithin_n60 rfl rfl rfl (hE.2.1 (RX0, 60, yX2_isWithin, RX2) (List.mem_of_getElem? (i := 6) rfl)) (hts (.initialized RX2) (List.mem_of_getElem? (i := 3) rfl)) hdS_X2_isWithin ⟨Nat.le_of_ble_eq_true rfl, Nat.le_of_ble_eq_true rfl⟩, (hts (.static yX2_isWithin) (List.mem_of_getElem? (i := 2) rfl)), trivial⟩ (gh_rS hE (fun k q h => by simp at h)) rfl rfl hl.1 rfl (lv_room (Nat.le_of_ble_eq_true rfl)) dX0_setPump_3 ⟨Nat.le_of_ble_eq_true rfl, Nat.le_of_ble_eq_true rfl⟩) ?_
  refine lv_if_eq (tgt := 16) hx hb dX0_setPump_6 (by decide) (fun c_1 => ?_) (fun c_1 => ?_)
  · skip
    have hP9 : va_P G.1 vwCl (wO G a sc (gh_sp o r v)) s.heap := by
      have e9 : o = gh_sp o r v := by first | (simp only [gh_sp, c_1, ↓reduceIte, if_true, if_false]; done) | (simp only [gh_sp]; simp only [c_1, ↓reduceIte, if_true, if_false]; done) | (simp [gh_sp, c_1, ↓reduceIte, if_true, if_false]; done)
      rw [← e9]
      exact hP
    exact W.vret hx hb hr (fun t9 ht hW => ⟨⟨(), rfl, trivial, gh_hp hP9 ht⟩, hS.F ht⟩) hS.2.2 dX0_setPump_16
  · skip
    refine lv_aload_n hx hb dX0_setPump_9 rfl (lv_at hl 0 rfl) ?_
    refine va_get (D := G.1) (ci := 0) (v := .ref (a 9)) (C := RX0) (T := TX0) (N := 15) hx hb hts (fun w9 h9 => List.mem_cons_of_mem _ (List.mem_append_right _ h9)) hown hK hP 0 rfl rfl 9 (by decide) (hts (.fieldLink RX0 37 "GlassHarp$Orchestra" "pumps" "[I") (List.mem_of_getElem? (i := 1) rfl)) (fun _ h9 => h9) rfl dX0_setPump_10 ?_
    refine lv_iload_n hx hb dX0_setPump_13 rfl (lv_at hl 1 rfl) ?_
    refine lv_iload_n hx hb dX0_setPump_14 rfl (lv_at hl 2 rfl) ?_
    refine va_iast (f := o 9) hx hb hK hP hD hS 9 0 rfl rfl (gh_iw_in c_1) dX0_setPump_15 (fun H locs hP hD hS => ?_)
    have hP : va_P G.1 vwCl (wO G a sc (gh_st o 9 (upd (o 9) r.toNatClampNeg v))) H := hP
    have hD : va_D A (wO G a sc (gh_st o 9 (upd (o 9) r.toNatClampNeg v))) := hD
    have hP9 : va_P G.1 vwCl (wO G a sc (gh_sp o r v)) H := by
      have e9 : gh_st o 9 (upd (o 9) r.toNatClampNeg v) = gh_sp o r v := by first | (simp only [gh_sp, c_1, ↓reduceIte, if_true, if_false]; done) | (simp only [gh_sp]; simp only [c_1, ↓reduceIte, if_true, if_false]; done) | (simp [gh_sp, c_1, ↓reduceIte, if_true, if_false]; done)
      rw [← e9]
      exact hP
    exact W.vret hx hb hr (fun t9 ht hW => ⟨⟨(), rfl, trivial, gh_hp hP9 ht⟩, hS.F ht⟩) hS.2.2 dX0_setPump_16
