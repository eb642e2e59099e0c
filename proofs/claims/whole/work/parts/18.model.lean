set_option maxHeartbeats 4000000 in
set_option maxRecDepth 100000 in
theorem c_X4_isIn (l : Launch) (G : gh_G) (y : Int32) (lo : Int32) (hh : Int32)  : Met l yX4_isIn wsX4_isIn ({ frames := 0, cells := 0, slots := 0, locals := 0 } : Room) (gh_r G [.int y, .int lo, .int hh] ([])) (vp_Si (fun r9 => r9 = gh_iw y lo hh)) 0 0 (fun _ => False) := by
  refine Met.ofW (cc := cX4_isIn) (maxL := 3) (ret := (some .boolean)) (by decide) rfl ?_
  intro p e s m args below meth c s₁ B hml hv
  obtain ⟨rfl, hP, hE⟩ := hv
  have hx := B.exec
  have hb := B.bytes
  have hr := B.returns
  have hts := atoms_spec (ws := wsX4_isIn) B.pre
  have hown : s.vm.findClass RX4 = some m.cls := findClass_of_methodNamed B.named
  have hlocks := B.notSynchronized
  have hK := hE.1
  have hl := lv_entry ([.int y, .int lo, .int hh]) (n := 3) (Nat.le_of_ble_eq_true rfl)
  rw [lg_entry_eq]
  generalize (lg_sl ([.int y, .int lo, .int hh]) ++ List.replicate (3 - (lg_sl ([.int y, .int lo, .int hh])).length) Slot.unset).toArray = ls at hl ⊢
  have hl : lv_has ls 3 [(0, .int y), (1, .int lo), (2, .int hh)] := hl
  refine lv_iload_n hx hb dX4_isIn_0 rfl (lv_at hl 0 rfl) ?_
  refine lv_iload_n hx hb dX4_isIn_1 rfl (lv_at hl 1 rfl) ?_
  refine lv_icmp_lt (tgt := 14) hx hb dX4_isIn_2 (by decide) (fun c_1 => ?_) (fun c_1 => ?_)
  · skip
    refine lv_iconst (v := 0) hx hb dX4_isIn_14 (by decide) ?_
    exact W.zret (v := 0) hx hb hr (by decide) (fun t9 ht hW => ⟨0, rfl, by first | (simp only [gh_iw, c_1, ↓reduceIte, if_true, if_false]; done) | (simp only [gh_iw]; simp only [c_1, ↓reduceIte, if_true, if_false]; done) | (simp [gh_iw, c_1, ↓reduceIte, if_true, if_false]; done), ht⟩) (fun q hq => absurd hq List.not_mem_nil) dX4_isIn_15
  · skip
    refine lv_iload_n hx hb dX4_isIn_5 rfl (lv_at hl 0 rfl) ?_
    refine lv_iload_n hx hb dX4_isIn_6 rfl (lv_at hl 2 rfl) ?_
    refine lv_icmp_gt (tgt := 14) hx hb dX4_isIn_7 (by decide) (fun c_2 => ?_) (fun c_2 => ?_)
    · skip
      refine lv_iconst (v := 0) hx hb dX4_isIn_14 (by decide) ?_
      exact W.zret (v := 0) hx hb hr (by decide) (fun t9 ht hW => ⟨0, rfl, by first | (simp only [gh_iw, c_1, c_2, ↓reduceIte, if_true, if_false]; done) | (simp only [gh_iw]; simp only [c_1, c_2, ↓reduceIte, if_true, if_false]; done) | (simp [gh_iw, c_1, c_2, ↓reduceIte, if_true, if_false]; done), ht⟩) (fun q hq => absurd hq List.not_mem_nil) dX4_isIn_15
    · skip
      refine lv_iconst (v := 1) hx hb dX4_isIn_10 (by decide) ?_
      refine lv_goto (tgt := 15) hx hb dX4_isIn_11 (by decide) ?_
      exact W.zret (v := 1) hx hb hr (by decide) (fun t9 ht hW => ⟨1, rfl, by first | (simp only [gh_iw, c_1, c_2, ↓reduceIte, if_true, if_false]; done) | (simp only [gh_iw]; simp only [c_1, c_2, ↓reduceIte, if_true, if_false]; done) | (simp [gh_iw, c_1, c_2, ↓reduceIte, if_true, if_false]; done), ht⟩) (fun q hq => absurd hq List.not_mem_nil) dX4_isIn_15
set_option maxHeartbeats 4000000 in
set_option maxRecDepth 100000 in
theorem c_X4_isRow (l : Launch) (G : gh_G) (y : Int32)  : Met l yX4_isRow wsX4_isRow ({ frames := 1, cells := 0, slots := 0, locals := 22 } : Room) (gh_r G [.int y] ([])) (vp_Si (fun r9 => r9 = gh_iw y 0 3)) 0 0 (fun _ => False) := by
  refine Met.ofW (cc := cX4_isRow) (maxL := 1) (ret := (some .boolean)) (by decide) rfl ?_
  intro p e s m args below meth c s₁ B hml hv
  obtain ⟨rfl, hP, hE⟩ := hv
  have hx := B.exec
  have hb := B.bytes
  have hr := B.returns
  have hts := atoms_spec (ws := wsX4_isRow) B.pre
  have hown : s.vm.findClass RX4 = some m.cls := findClass_of_methodNamed B.named
  have hlocks := B.notSynchronized
  have hK := hE.1
  have hl := lv_entry ([.int y]) (n := 1) (Nat.le_of_ble_eq_true rfl)
  rw [lg_entry_eq]
  generalize (lg_sl ([.int y]) ++ List.replicate (1 - (lg_sl ([.int y])).length) Slot.unset).toArray = ls at hl ⊢
  have hl : lv_has ls 1 [(0, .int y)] := hl
  refine lv_iload_n hx hb dX4_isRow_0 rfl (lv_at hl 0 rfl) ?_
  refine lv_iconst (v := 0) hx hb dX4_isRow_1 (by decide) ?_
  refine lv_iconst (v := 3) hx hb dX4_isRow_2 (by decide) ?_
  refine gh_ci (va_runS (As := [.int y, .int 0, .int 3]) (rest := []) ⟨hx, hb, hml, hown, hts⟩ (c_X4_isIn l G y 0 3) (va_cwS 3 hts gX4_isRow_X4_isIn rfl rfl rfl hdS_X4_isIn ⟨Nat.le_of_ble_eq_true rfl, Nat.le_of_ble_eq_true rfl⟩) (gh_rS hE (fun k q h => by simp at h)) rfl rfl hl.1 rfl (lv_room (Nat.le_of_ble_eq_true rfl)) dX4_isRow_3 ⟨Nat.le_of_ble_eq_true rfl, Nat.le_of_ble_eq_true rfl⟩) ?_
  exact W.zret (v := gh_iw y 0 3) hx hb hr (gh_iwb _ _ _) (fun t9 ht hW => ⟨gh_iw y 0 3, rfl, rfl, ht⟩) (fun q hq => absurd hq List.not_mem_nil) dX4_isRow_6
set_option maxHeartbeats 4000000 in
set_option maxRecDepth 100000 in
theorem c_X4_thrown (l : Launch) (G : gh_G) (x : Nat → Nat) (r : gh_B) (a : Nat → Nat) (t : gh_B) (s2 : Nat)  : Met l yX4_thrown wsX4_thrown ({ frames := 0, cells := 0, slots := 0, locals := 0 } : Room) (gh_r G [.ref (x 0)] (wM G x (a 0) s2 r)) (vp_Si (fun r9 => r9 = r 0 0)) 0 0 (fun _ => False) := by
  refine Met.ofW (cc := cX4_thrown) (maxL := 1) (ret := (some .int)) (by decide) rfl ?_
  intro p e s m args below meth c s₁ B hml hv
  obtain ⟨rfl, hP, hE⟩ := hv
  have hx := B.exec
  have hb := B.bytes
  have hr := B.returns
  have hts := atoms_spec (ws := wsX4_thrown) B.pre
  have hown : s.vm.findClass RX4 = some m.cls := findClass_of_methodNamed B.named
  have hlocks := B.notSynchronized
  have hK := hE.1
  have hl := lv_entry ([.ref (x 0)]) (n := 1) (Nat.le_of_ble_eq_true rfl)
  rw [lg_entry_eq]
  generalize (lg_sl ([.ref (x 0)]) ++ List.replicate (1 - (lg_sl ([.ref (x 0)])).length) Slot.unset).toArray = ls at hl ⊢
  have hl : lv_has ls 1 [(0, .ref (x 0))] := hl
  refine lv_aload_n hx hb dX4_thrown_0 rfl (lv_at hl 0 rfl) ?_
  refine va_get (D := G.1) (ci := 4) (v := .int (r 0 0)) (C := RX4) (T := TX4) (N := 9) hx hb hts (fun w9 h9 => List.mem_cons_of_mem _ (List.mem_append_right _ h9)) hown hK hP 0 rfl rfl 0 (by decide) (hts (.fieldLink RX4 35 "GlassHarpModel" "thrown" "I") (List.mem_of_getElem? (i := 1) rfl)) (fun _ h9 => h9) rfl dX4_thrown_1 ?_
  exact W.iret (v := r 0 0) hx hb hr (fun t9 ht hW => ⟨r 0 0, rfl, rfl, ht⟩) (fun q hq => absurd hq List.not_mem_nil) dX4_thrown_4
set_option maxHeartbeats 4000000 in
set_option maxRecDepth 100000 in
theorem c_X4_isGlass (l : Launch) (G : gh_G) (x : Nat → Nat) (r : gh_B) (a : Nat → Nat) (t : gh_B) (s2 : Nat) (n : Nat) (y : Int32) (hn : r 4 0 = nI n) : Met l yX4_isGlass wsX4_isGlass ({ frames := 1, cells := 0, slots := 0, locals := 22 } : Room) (gh_r G [.ref (x 0), .int y] (wM G x (a 0) s2 r)) (vp_Si (fun r9 => r9 = gh_iw y 0 (nI n - 1))) 0 0 (fun _ => False) := by
  refine Met.ofW (cc := cX4_isGlass) (maxL := 2) (ret := (some .boolean)) (by decide) rfl ?_
  intro p e s m args below meth c s₁ B hml hv
  obtain ⟨rfl, hP, hE⟩ := hv
  have hx := B.exec
  have hb := B.bytes
  have hr := B.returns
  have hts := atoms_spec (ws := wsX4_isGlass) B.pre
  have hown : s.vm.findClass RX4 = some m.cls := findClass_of_methodNamed B.named
  have hlocks := B.notSynchronized
  have hK := hE.1
  have hl := lv_entry ([.ref (x 0), .int y]) (n := 2) (Nat.le_of_ble_eq_true rfl)
  rw [lg_entry_eq]
  generalize (lg_sl ([.ref (x 0), .int y]) ++ List.replicate (2 - (lg_sl ([.ref (x 0), .int y])).length) Slot.unset).toArray = ls at hl ⊢
  have hl : lv_has ls 2 [(0, .ref (x 0)), (1, .int y)] := hl
  refine lv_iload_n hx hb dX4_isGlass_0 rfl (lv_at hl 1 rfl) ?_
  refine lv_iconst (v := 0) hx hb dX4_isGlass_1 (by decide) ?_
  refine lv_aload_n hx hb dX4_isGlass_2 rfl (lv_at hl 0 rfl) ?_
  refine va_get (D := G.1) (ci := 4) (v := .int (r 4 0)) (C := RX4) (T := TX4) (N := 9) hx hb hts (fun w9 h9 => List.mem_cons_of_mem _ (List.mem_append_right _ h9)) hown hK hP 0 rfl rfl 4 (by decide) (hts (.fieldLink RX4 38 "GlassHarpModel" "glasses" "I") (List.mem_of_getElem? (i := 1) rfl)) (fun _ h9 => h9) rfl dX4_isGlass_3 ?_
  refine gh_vv (y := nI n) (hn) ?_
  refine lv_iconst (v := 1) hx hb dX4_isGlass_6 (by decide) ?_
  refine lv_isub hx hb dX4_isGlass_7 ?_
  refine gh_ci (va_runS (As := [.int y, .int 0, .int ((nI n) - 1)]) (rest := []) ⟨hx, hb, hml, hown, hts⟩ (c_X4_isIn l G y 0 ((nI n) - 1)) (va_cwS 3 hts gX4_isGlass_X4_isIn rfl rfl rfl hdS_X4_isIn ⟨Nat.le_of_ble_eq_true rfl, Nat.le_of_ble_eq_true rfl⟩) (gh_rS hE (fun k q h => by simp at h)) rfl rfl hl.1 rfl (lv_room (Nat.le_of_ble_eq_true rfl)) dX4_isGlass_8 ⟨Nat.le_of_ble_eq_true rfl, Nat.le_of_ble_eq_true rfl⟩) ?_
  exact W.zret (v := gh_iw y 0 ((nI n) - 1)) hx hb hr (gh_iwb _ _ _) (fun t9 ht hW => ⟨gh_iw y 0 ((nI n) - 1), rfl, by first | (simp only [↓reduceIte, if_true, if_false]; done) | (simp only [↓reduceIte, if_true, if_false]; rfl) | (simp [↓reduceIte, if_true, if_false]; done), ht⟩) (fun q hq => absurd hq List.not_mem_nil) dX4_isGlass_11
set_option maxHeartbeats 4000000 in
set_option maxRecDepth 100000 in
theorem c_X4_no (l : Launch) (G : gh_G) (sz : Nat) (x : Nat → Nat) (r : gh_B) (a : Nat → Nat) (t : gh_B) (s2 : Nat) (y : Int32)  : Met l yX4_no wsX4_no ({ frames := 0, cells := 0, slots := 0, locals := 0 } : Room) (gh_w G [.ref (x 0), .int y] (wM G x (a 0) s2 r) sz) (va_Qi (fun (r9 : Int32) (_ : Unit) => r9 = 0) (fun _ t9 => va_P G.1 vwCl (wM G x (a 0) s2 (gh_st r 0 (fun _ => y))) t9.heap) (va_A (wM G x (a 0) s2 r) sz)) 0 0 (va_A (wM G x (a 0) s2 r) sz) := by
  refine Met.ofW (cc := cX4_no) (maxL := 2) (ret := (some .int)) (by decide) rfl ?_
  intro p e s m args below meth c s₁ B hml hv
  obtain ⟨rfl, hsz, hP, hE, hD0⟩ := hv
  have hx := B.exec
  have hb := B.bytes
  have hr := B.returns
  have hts := atoms_spec (ws := wsX4_no) B.pre
  have hown : s.vm.findClass RX4 = some m.cls := findClass_of_methodNamed B.named
  have hlocks := B.notSynchronized
  have hK := hE.1
  subst hsz
  have hD := hD0.self (sz := s.heap.size)
  generalize hAe : va_A (wM G x (a 0) s2 r) s.heap.size = A at hD ⊢
  have hA : ∀ q : Nat, s.heap.size ≤ q → A q := fun q h => by rw [← hAe]; exact Or.inr h
  have hS : va_S A s.heap s.heap [] := va_S.rf
  have hl := lv_entry ([.ref (x 0), .int y]) (n := 2) (Nat.le_of_ble_eq_true rfl)
  rw [lg_entry_eq]
  generalize (lg_sl ([.ref (x 0), .int y]) ++ List.replicate (2 - (lg_sl ([.ref (x 0), .int y])).length) Slot.unset).toArray = ls at hl ⊢
  have hl : lv_has ls 2 [(0, .ref (x 0)), (1, .int y)] := hl
  refine lv_aload_n hx hb dX4_no_0 rfl (lv_at hl 0 rfl) ?_
  refine lv_iload_n hx hb dX4_no_1 rfl (lv_at hl 1 rfl) ?_
  refine va_put (D := G.1) (ci := 4) (v := .int y) (ty := .int) (C := RX4) (T := TX4) (N := 9) hx hb hts (fun w9 h9 => List.mem_cons_of_mem _ (List.mem_append_right _ h9)) tyX4 tyX4_ok nmX4 hown hK hP hD hS 0 rfl rfl 0 (by decide) (hts (.fieldLink RX4 35 "GlassHarpModel" "thrown" "I") (List.mem_of_getElem? (i := 1) rfl)) (fun _ h9 => h9) rfl (tyX4_ok 0 (by decide)) rfl rfl (Nat.le_of_ble_eq_true rfl) dX4_no_2 (fun H locs hP hD hS => ?_)
  have hP : va_P G.1 vwCl (wM G x (a 0) s2 (gh_st r 0 (fun _ => y))) H := hP
  have hD : va_D A (wM G x (a 0) s2 (gh_st r 0 (fun _ => y))) := hD
  refine lv_iconst (v := 0) hx hb dX4_no_5 (by decide) ?_
  have hP9 := hP
  exact W.iret (v := 0) hx hb hr (fun t9 ht hW => ⟨⟨0, (), rfl, rfl, gh_hp hP9 ht⟩, hS.F ht⟩) hS.2.2 dX4_no_6
set_option maxHeartbeats 4000000 in
set_option maxRecDepth 100000 in
theorem c_X4_set (l : Launch) (G : gh_G) (sz : Nat) (x : Nat → Nat) (r : gh_B) (a : Nat → Nat) (t : gh_B) (s2 : Nat) (n : Nat) (y : Int32) (z : Int32) (v : Int32) (hn : r 4 0 = nI n) (hn16 : n ≤ 16) : Met l yX4_set wsX4_set ({ frames := 2, cells := 0, slots := 0, locals := 42 } : Room) (gh_w G [.ref (x 0), .int y, .int z, .int v] ((wM G x (a 0) s2 r) ++ (wT G a (x 0) t)) sz) (va_Qi (fun (r9 : Int32) (_ : Unit) => r9 = gm_kset 0 0 (nI n) n y z v) (fun _ t9 => va_P G.1 vwCl ((wM G x (a 0) s2 (gm_kset (gm_no r 1) (gm_no r 2) (gm_ad r n y z) n y z v)) ++ (wT G a (x 0) (gm_kset t t (gh_st t 6 (upd (t 6) n v)) n y z v))) t9.heap) (va_A ((wM G x (a 0) s2 r) ++ (wT G a (x 0) t)) sz)) 0 0 (va_A ((wM G x (a 0) s2 r) ++ (wT G a (x 0) t)) sz) := by
  refine Met.ofW (cc := cX4_set) (maxL := 4) (ret := (some .int)) (by decide) rfl ?_
  intro p e s m args below meth c s₁ B hml hv
  obtain ⟨rfl, hsz, hP, hE, hD0⟩ := hv
  have hx := B.exec
  have hb := B.bytes
  have hr := B.returns
  have hts := atoms_spec (ws := wsX4_set) B.pre
  have hown : s.vm.findClass RX4 = some m.cls := findClass_of_methodNamed B.named
  have hlocks := B.notSynchronized
  have hK := hE.1
  subst hsz
  have hD := hD0.self (sz := s.heap.size)
  generalize hAe : va_A ((wM G x (a 0) s2 r) ++ (wT G a (x 0) t)) s.heap.size = A at hD ⊢
  have hA : ∀ q : Nat, s.heap.size ≤ q → A q := fun q h => by rw [← hAe]; exact Or.inr h
  have hS : va_S A s.heap s.heap [] := va_S.rf
  have hl := lv_entry ([.ref (x 0), .int y, .int z, .int v]) (n := 4) (Nat.le_of_ble_eq_true rfl)
  rw [lg_entry_eq]
  generalize (lg_sl ([.ref (x 0), .int y, .int z, .int v]) ++ List.replicate (4 - (lg_sl ([.ref (x 0), .int y, .int z, .int v])).length) Slot.unset).toArray = ls at hl ⊢
  have hl : lv_has ls 4 [(0, .ref (x 0)), (1, .int y), (2, .int z), (3, .int v)] := hl
  refine lv_aload_n hx hb dX4_set_0 rfl (lv_at hl 0 rfl) ?_
  refine lv_iconst (v := 0) hx hb dX4_set_1 (by decide) ?_
  refine va_put (D := G.1) (ci := 4) (v := .int 0) (ty := .int) (C := RX4) (T := TX4) (N := 9) hx hb hts (fun w9 h9 => List.mem_cons_of_mem _ (List.mem_append_left _ (List.mem_append_right _ h9))) tyX4 tyX4_ok nmX4 hown hK hP hD hS 0 rfl rfl 0 (by decide) (hts (.fieldLink RX4 35 "GlassHarpModel" "thrown" "I") (List.mem_of_getElem? (i := 1) rfl)) (fun _ h9 => h9) rfl (tyX4_ok 0 (by decide)) rfl rfl (Nat.le_of_ble_eq_true rfl) dX4_set_2 (fun H locs hP hD hS => ?_)
  have hP : va_P G.1 vwCl ((wM G x (a 0) s2 (gh_st r 0 (fun _ => 0))) ++ (wT G a (x 0) t)) H := hP
  have hD : va_D A ((wM G x (a 0) s2 (gh_st r 0 (fun _ => 0))) ++ (wT G a (x 0) t)) := hD
  refine lv_iload_n hx hb dX4_set_5 rfl (lv_at hl 1 rfl) ?_
  refine gh_ci (va_runS (As := [.int y]) (rest := []) ⟨hx, hb, hml, hown, hts⟩ (c_X4_isRow l G y) (va_cwS 1 hts gX4_set_X4_isRow rfl rfl rfl hdS_X4_isRow ⟨Nat.le_of_ble_eq_true rfl, Nat.le_of_ble_eq_true rfl⟩) (gh_rS hE (fun k q h => by simp at h)) rfl rfl hl.1 rfl (lv_room (Nat.le_of_ble_eq_true rfl)) dX4_set_6 ⟨Nat.le_of_ble_eq_true rfl, Nat.le_of_ble_eq_true rfl⟩) ?_
  refine lv_if_eq (tgt := 34) hx hb dX4_set_9 (by decide) (fun c_1 => ?_) (fun c_1 => ?_)
  · skip
    refine lv_aload_n hx hb dX4_set_34 rfl (lv_at hl 0 rfl) ?_
    refine lv_iconst (v := 1) hx hb dX4_set_35 (by decide) ?_
    refine gh_cw (wr := wT G a (x 0) t) (ws' := (wM G x (a 0) s2 (gh_st (gh_st r 0 (fun _ => 0)) 0 (fun _ => 1))) ++ (wT G a (x 0) t)) (va_runV (As := [.int 1]) (rest := []) ⟨hx, hb, hml, hown, hts⟩ (c_X4_no l G H.size x (gh_st r 0 (fun _ => 0)) a t s2 1) (cwV 1 hts gX4_set_X4_no rfl rfl rfl ⟨rfl, hdS_X4_no⟩ ⟨Nat.le_of_ble_eq_true rfl, Nat.le_of_ble_eq_true rfl⟩) (gh_wV hE (hP.sub (ws' := wM G x (a 0) s2 (gh_st r 0 (fun _ => 0))) [0, 1, 2, 3] rfl) (hD.sub (ws' := wM G x (a 0) s2 (gh_st r 0 (fun _ => 0))) [0, 1, 2, 3] (by decide) rfl) (ci := 4) (q0 := 0) rfl rfl) rfl rfl hl.1 rfl (lv_room (Nat.le_of_ble_eq_true rfl)) dX4_set_36 ⟨Nat.le_of_ble_eq_true rfl, Nat.le_of_ble_eq_true rfl⟩) hP hD hS hA [0, 1, 2, 3] [4, 5, 6, 7, 8, 9, 10] [7, 8, 9, 10, 0, 1, 2, 3, 4, 5, 6] rfl rfl (by decide) (by decide) (by decide) [x 0, x 3, x 5, x 6] [x 0, x 3, x 5, x 6, a 0, a 4, a 5, a 6, a 7, a 8, a 9] rfl rfl rfl rfl rfl (fun H locs hP hD hS => ?_)
    have hP9 : va_P G.1 vwCl ((wM G x (a 0) s2 (gm_kset (gm_no r 1) (gm_no r 2) (gm_ad r n y z) n y z v)) ++ (wT G a (x 0) (gm_kset t t (gh_st t 6 (upd (t 6) n v)) n y z v))) H := by
      have e9 : gh_st (gh_st r 0 (fun _ => 0)) 0 (fun _ => 1) = gm_kset (gm_no r 1) (gm_no r 2) (gm_ad r n y z) n y z v := by first | (simp only [gm_kset, gm_ad, gm_no, gm_z, c_1, ↓reduceIte, if_true, if_false]; done) | (simp only [gm_kset, gm_ad, gm_no, gm_z]; simp only [c_1, ↓reduceIte, if_true, if_false]; done) | (simp [gm_kset, gm_ad, gm_no, gm_z, c_1, ↓reduceIte, if_true, if_false]; done)
      rw [← e9]
      have e9 : t = gm_kset t t (gh_st t 6 (upd (t 6) n v)) n y z v := by first | (simp only [gm_kset, gm_ad, gm_no, gm_z, c_1, ↓reduceIte, if_true, if_false]; done) | (simp only [gm_kset, gm_ad, gm_no, gm_z]; simp only [c_1, ↓reduceIte, if_true, if_false]; done) | (simp [gm_kset, gm_ad, gm_no, gm_z, c_1, ↓reduceIte, if_true, if_false]; done)
      rw [← e9]
      exact hP
    exact W.iret (v := 0) hx hb hr (fun t9 ht hW => ⟨⟨0, (), rfl, by first | (simp only [gm_kset, gm_ad, gm_no, gm_z, c_1, ↓reduceIte, if_true, if_false]; done) | (simp only [gm_kset, gm_ad, gm_no, gm_z]; simp only [c_1, ↓reduceIte, if_true, if_false]; done) | (simp [gm_kset, gm_ad, gm_no, gm_z, c_1, ↓reduceIte, if_true, if_false]; done), gh_hp hP9 ht⟩, hS.F ht⟩) hS.2.2 dX4_set_39
  · skip
    refine lv_iload_n hx hb dX4_set_12 rfl (lv_at hl 2 rfl) ?_
    refine lv_iconst (v := 1) hx hb dX4_set_13 (by decide) ?_
    refine lv_bipush (v := 9) hx hb dX4_set_14 (by decide) ?_
    refine gh_ci (va_runS (As := [.int z, .int 1, .int 9]) (rest := []) ⟨hx, hb, hml, hown, hts⟩ (c_X4_isIn l G z 1 9) (va_cwS 3 hts gX4_set_X4_isIn rfl rfl rfl hdS_X4_isIn ⟨Nat.le_of_ble_eq_true rfl, Nat.le_of_ble_eq_true rfl⟩) (gh_rS hE (fun k q h => by simp at h)) rfl rfl hl.1 rfl (lv_room (Nat.le_of_ble_eq_true rfl)) dX4_set_16 ⟨Nat.le_of_ble_eq_true rfl, Nat.le_of_ble_eq_true rfl⟩) ?_
    refine lv_if_eq (tgt := 34) hx hb dX4_set_19 (by decide) (fun c_2 => ?_) (fun c_2 => ?_)
    · skip
      refine lv_aload_n hx hb dX4_set_34 rfl (lv_at hl 0 rfl) ?_
      refine lv_iconst (v := 1) hx hb dX4_set_35 (by decide) ?_
      refine gh_cw (wr := wT G a (x 0) t) (ws' := (wM G x (a 0) s2 (gh_st (gh_st r 0 (fun _ => 0)) 0 (fun _ => 1))) ++ (wT G a (x 0) t)) (va_runV (As := [.int 1]) (rest := []) ⟨hx, hb, hml, hown, hts⟩ (c_X4_no l G H.size x (gh_st r 0 (fun _ => 0)) a t s2 1) (cwV 1 hts gX4_set_X4_no rfl rfl rfl ⟨rfl, hdS_X4_no⟩ ⟨Nat.le_of_ble_eq_true rfl, Nat.le_of_ble_eq_true rfl⟩) (gh_wV hE (hP.sub (ws' := wM G x (a 0) s2 (gh_st r 0 (fun _ => 0))) [0, 1, 2, 3] rfl) (hD.sub (ws' := wM G x (a 0) s2 (gh_st r 0 (fun _ => 0))) [0, 1, 2, 3] (by decide) rfl) (ci := 4) (q0 := 0) rfl rfl) rfl rfl hl.1 rfl (lv_room (Nat.le_of_ble_eq_true rfl)) dX4_set_36 ⟨Nat.le_of_ble_eq_true rfl, Nat.le_of_ble_eq_true rfl⟩) hP hD hS hA [0, 1, 2, 3] [4, 5, 6, 7, 8, 9, 10] [7, 8, 9, 10, 0, 1, 2, 3, 4, 5, 6] rfl rfl (by decide) (by decide) (by decide) [x 0, x 3, x 5, x 6] [x 0, x 3, x 5, x 6, a 0, a 4, a 5, a 6, a 7, a 8, a 9] rfl rfl rfl rfl rfl (fun H locs hP hD hS => ?_)
      have hP9 : va_P G.1 vwCl ((wM G x (a 0) s2 (gm_kset (gm_no r 1) (gm_no r 2) (gm_ad r n y z) n y z v)) ++ (wT G a (x 0) (gm_kset t t (gh_st t 6 (upd (t 6) n v)) n y z v))) H := by
        have e9 : gh_st (gh_st r 0 (fun _ => 0)) 0 (fun _ => 1) = gm_kset (gm_no r 1) (gm_no r 2) (gm_ad r n y z) n y z v := by first | (simp only [gm_kset, gm_ad, gm_no, gm_z, c_1, c_2, ↓reduceIte, if_true, if_false]; done) | (simp only [gm_kset, gm_ad, gm_no, gm_z]; simp only [c_1, c_2, ↓reduceIte, if_true, if_false]; done) | (simp [gm_kset, gm_ad, gm_no, gm_z, c_1, c_2, ↓reduceIte, if_true, if_false]; done)
        rw [← e9]
        have e9 : t = gm_kset t t (gh_st t 6 (upd (t 6) n v)) n y z v := by first | (simp only [gm_kset, gm_ad, gm_no, gm_z, c_1, c_2, ↓reduceIte, if_true, if_false]; done) | (simp only [gm_kset, gm_ad, gm_no, gm_z]; simp only [c_1, c_2, ↓reduceIte, if_true, if_false]; done) | (simp [gm_kset, gm_ad, gm_no, gm_z, c_1, c_2, ↓reduceIte, if_true, if_false]; done)
        rw [← e9]
        exact hP
      exact W.iret (v := 0) hx hb hr (fun t9 ht hW => ⟨⟨0, (), rfl, by first | (simp only [gm_kset, gm_ad, gm_no, gm_z, c_1, c_2, ↓reduceIte, if_true, if_false]; done) | (simp only [gm_kset, gm_ad, gm_no, gm_z]; simp only [c_1, c_2, ↓reduceIte, if_true, if_false]; done) | (simp [gm_kset, gm_ad, gm_no, gm_z, c_1, c_2, ↓reduceIte, if_true, if_false]; done), gh_hp hP9 ht⟩, hS.F ht⟩) hS.2.2 dX4_set_39
    · skip
      refine lv_iload_n hx hb dX4_set_22 rfl (lv_at hl 3 rfl) ?_
      refine lv_iconst (v := 0) hx hb dX4_set_23 (by decide) ?_
      refine lv_bipush (v := 100) hx hb dX4_set_24 (by decide) ?_
      refine lv_iload_n hx hb dX4_set_26 rfl (lv_at hl 2 rfl) ?_
      refine lv_imul hx hb dX4_set_27 ?_
      refine gh_ci (va_runS (As := [.int v, .int 0, .int (100 * z)]) (rest := []) ⟨hx, hb, hml, hown, hts⟩ (c_X4_isIn l G v 0 (100 * z)) (va_cwS 3 hts gX4_set_X4_isIn rfl rfl rfl hdS_X4_isIn ⟨Nat.le_of_ble_eq_true rfl, Nat.le_of_ble_eq_true rfl⟩) (gh_rS hE (fun k q h => by simp at h)) rfl rfl hl.1 rfl (lv_room (Nat.le_of_ble_eq_true rfl)) dX4_set_28 ⟨Nat.le_of_ble_eq_true rfl, Nat.le_of_ble_eq_true rfl⟩) ?_
      refine lv_if_ne (tgt := 40) hx hb dX4_set_31 (by decide) (fun c_3 => ?_) (fun c_3 => ?_)
      · skip
        refine lv_aload_n hx hb dX4_set_40 rfl (lv_at hl 0 rfl) ?_
        refine va_get (D := G.1) (ci := 4) (v := .int (r 4 0)) (C := RX4) (T := TX4) (N := 9) hx hb hts (fun w9 h9 => List.mem_cons_of_mem _ (List.mem_append_left _ (List.mem_append_right _ h9))) hown hK hP 0 rfl rfl 4 (by decide) (hts (.fieldLink RX4 38 "GlassHarpModel" "glasses" "I") (List.mem_of_getElem? (i := 2) rfl)) (fun _ h9 => h9) rfl dX4_set_41 ?_
        refine gh_vv (y := nI n) (hn) ?_
        refine lv_bipush (v := 16) hx hb dX4_set_44 (by decide) ?_
        refine lv_icmp_ne (tgt := 55) hx hb dX4_set_46 (by decide) (fun c_4 => ?_) (fun c_4 => ?_)
        · skip
          have hnn : n < 16 := Nat.lt_of_le_of_ne hn16 (fun e9 => c_4 (by rw [e9]; rfl))
          refine lv_aload_n hx hb dX4_set_55 rfl (lv_at hl 0 rfl) ?_
          refine va_get (D := G.1) (ci := 4) (v := .ref (x 5)) (C := RX4) (T := TX4) (N := 9) hx hb hts (fun w9 h9 => List.mem_cons_of_mem _ (List.mem_append_left _ (List.mem_append_right _ h9))) hown hK hP 0 rfl rfl 5 (by decide) (hts (.fieldLink RX4 17 "GlassHarpModel" "row" "[I") (List.mem_of_getElem? (i := 3) rfl)) (fun _ h9 => h9) rfl dX4_set_56 ?_
          refine lv_aload_n hx hb dX4_set_59 rfl (lv_at hl 0 rfl) ?_
          refine va_get (D := G.1) (ci := 4) (v := .int (r 4 0)) (C := RX4) (T := TX4) (N := 9) hx hb hts (fun w9 h9 => List.mem_cons_of_mem _ (List.mem_append_left _ (List.mem_append_right _ h9))) hown hK hP 0 rfl rfl 4 (by decide) (hts (.fieldLink RX4 38 "GlassHarpModel" "glasses" "I") (List.mem_of_getElem? (i := 2) rfl)) (fun _ h9 => h9) rfl dX4_set_60 ?_
          refine gh_vv (y := nI n) (hn) ?_
          refine lv_iload_n hx hb dX4_set_63 rfl (lv_at hl 1 rfl) ?_
          refine gh_is (f := r 5) (ws' := (wM G x (a 0) s2 (gh_st (gh_st r 0 (fun _ => 0)) 5 (upd (r 5) n y))) ++ (wT G a (x 0) t)) hx hb hK hP hD hS 2 0 rfl rfl n (rfl) (by omega) (by decide) dX4_set_64 rfl (fun H locs hP hD hS => ?_)
          refine lv_aload_n hx hb dX4_set_65 rfl (lv_at hl 0 rfl) ?_
          refine va_get (D := G.1) (ci := 4) (v := .ref (x 6)) (C := RX4) (T := TX4) (N := 9) hx hb hts (fun w9 h9 => List.mem_cons_of_mem _ (List.mem_append_left _ (List.mem_append_right _ h9))) hown hK hP 0 rfl rfl 6 (by decide) (hts (.fieldLink RX4 20 "GlassHarpModel" "size" "[I") (List.mem_of_getElem? (i := 4) rfl)) (fun _ h9 => h9) rfl dX4_set_66 ?_
          refine lv_aload_n hx hb dX4_set_69 rfl (lv_at hl 0 rfl) ?_
          refine va_get (D := G.1) (ci := 4) (v := .int (r 4 0)) (C := RX4) (T := TX4) (N := 9) hx hb hts (fun w9 h9 => List.mem_cons_of_mem _ (List.mem_append_left _ (List.mem_append_right _ h9))) hown hK hP 0 rfl rfl 4 (by decide) (hts (.fieldLink RX4 38 "GlassHarpModel" "glasses" "I") (List.mem_of_getElem? (i := 2) rfl)) (fun _ h9 => h9) rfl dX4_set_70 ?_
          refine gh_vv (y := nI n) (hn) ?_
          refine lv_iload_n hx hb dX4_set_73 rfl (lv_at hl 2 rfl) ?_
          refine gh_is (f := r 6) (ws' := (wM G x (a 0) s2 (gh_st (gh_st (gh_st r 0 (fun _ => 0)) 5 (upd (r 5) n y)) 6 (upd (r 6) n z))) ++ (wT G a (x 0) t)) hx hb hK hP hD hS 3 0 rfl rfl n (rfl) (by omega) (by decide) dX4_set_74 rfl (fun H locs hP hD hS => ?_)
          refine lv_aload_n hx hb dX4_set_75 rfl (lv_at hl 0 rfl) ?_
          refine va_get (D := G.1) (ci := 4) (v := .ref (a 0)) (C := RX4) (T := TX4) (N := 9) hx hb hts (fun w9 h9 => List.mem_cons_of_mem _ (List.mem_append_left _ (List.mem_append_right _ h9))) hown hK hP 0 rfl rfl 7 (by decide) (hts (.fieldLink RX4 28 "GlassHarpModel" "s" "LGlassHarpModel$State;") (List.mem_of_getElem? (i := 5) rfl)) (fun _ h9 => h9) rfl dX4_set_76 ?_
          refine va_getN (D := G.1) (ci := 3) (v := .ref (a 6)) (C := RX3) (T := TX3) (N := 12) hx hb hts (fun w9 h9 => List.mem_cons_of_mem _ (List.mem_append_right _ h9)) hown hK hP 4 rfl rfl 6 (by decide) (va_Nw.use rfl (hE.2.2 (RX4, 53, "GlassHarpModel$State", "drops", "[I", RX4) (List.mem_of_getElem? (i := 28) rfl))) (fun _ h9 => h9) rfl dX4_set_79 ?_
          refine lv_aload_n hx hb dX4_set_82 rfl (lv_at hl 0 rfl) ?_
          refine va_get (D := G.1) (ci := 4) (v := .int (r 4 0)) (C := RX4) (T := TX4) (N := 9) hx hb hts (fun w9 h9 => List.mem_cons_of_mem _ (List.mem_append_left _ (List.mem_append_right _ h9))) hown hK hP 0 rfl rfl 4 (by decide) (hts (.fieldLink RX4 38 "GlassHarpModel" "glasses" "I") (List.mem_of_getElem? (i := 2) rfl)) (fun _ h9 => h9) rfl dX4_set_83 ?_
          refine gh_vv (y := nI n) (hn) ?_
          refine lv_iload_n hx hb dX4_set_86 rfl (lv_at hl 3 rfl) ?_
          refine gh_is (f := t 6) (ws' := (wM G x (a 0) s2 (gh_st (gh_st (gh_st r 0 (fun _ => 0)) 5 (upd (r 5) n y)) 6 (upd (r 6) n z))) ++ (wT G a (x 0) (gh_st t 6 (upd (t 6) n v)))) hx hb hK hP hD hS 7 0 rfl rfl n (rfl) (by omega) (by decide) dX4_set_87 rfl (fun H locs hP hD hS => ?_)
          refine lv_aload_n hx hb dX4_set_88 rfl (lv_at hl 0 rfl) ?_
          refine lv_dup hx hb dX4_set_89 rfl ?_
          refine va_get (D := G.1) (ci := 4) (v := .int (r 4 0)) (C := RX4) (T := TX4) (N := 9) hx hb hts (fun w9 h9 => List.mem_cons_of_mem _ (List.mem_append_left _ (List.mem_append_right _ h9))) hown hK hP 0 rfl rfl 4 (by decide) (hts (.fieldLink RX4 38 "GlassHarpModel" "glasses" "I") (List.mem_of_getElem? (i := 2) rfl)) (fun _ h9 => h9) rfl dX4_set_90 ?_
          refine gh_vv (y := nI n) (hn) ?_
          refine lv_iconst (v := 1) hx hb dX4_set_93 (by decide) ?_
          refine lv_iadd hx hb dX4_set_94 ?_
          refine gh_vv (y := nI (n + 1)) (nI_1 n) ?_
          refine va_put (D := G.1) (ci := 4) (v := .int (nI (n + 1))) (ty := .int) (C := RX4) (T := TX4) (N := 9) hx hb hts (fun w9 h9 => List.mem_cons_of_mem _ (List.mem_append_left _ (List.mem_append_right _ h9))) tyX4 tyX4_ok nmX4 hown hK hP hD hS 0 rfl rfl 4 (by decide) (hts (.fieldLink RX4 38 "GlassHarpModel" "glasses" "I") (List.mem_of_getElem? (i := 2) rfl)) (fun _ h9 => h9) rfl (tyX4_ok 4 (by decide)) rfl rfl (Nat.le_of_ble_eq_true rfl) dX4_set_95 (fun H locs hP hD hS => ?_)
          have hP : va_P G.1 vwCl ((wM G x (a 0) s2 (gh_st (gh_st (gh_st (gh_st r 0 (fun _ => 0)) 5 (upd (r 5) n y)) 6 (upd (r 6) n z)) 4 (fun _ => nI (n + 1)))) ++ (wT G a (x 0) (gh_st t 6 (upd (t 6) n v)))) H := hP
          have hD : va_D A ((wM G x (a 0) s2 (gh_st (gh_st (gh_st (gh_st r 0 (fun _ => 0)) 5 (upd (r 5) n y)) 6 (upd (r 6) n z)) 4 (fun _ => nI (n + 1)))) ++ (wT G a (x 0) (gh_st t 6 (upd (t 6) n v)))) := hD
          refine lv_aload_n hx hb dX4_set_98 rfl (lv_at hl 0 rfl) ?_
          refine va_get (D := G.1) (ci := 4) (v := .int (nI (n + 1))) (C := RX4) (T := TX4) (N := 9) hx hb hts (fun w9 h9 => List.mem_cons_of_mem _ (List.mem_append_left _ (List.mem_append_right _ h9))) hown hK hP 0 rfl rfl 4 (by decide) (hts (.fieldLink RX4 38 "GlassHarpModel" "glasses" "I") (List.mem_of_getElem? (i := 2) rfl)) (fun _ h9 => h9) rfl dX4_set_99 ?_
          refine lv_iconst (v := 1) hx hb dX4_set_102 (by decide) ?_
          refine lv_isub hx hb dX4_set_103 ?_
          refine gh_vv (y := nI n) (nI_pred n) ?_
          have hP9 : va_P G.1 vwCl ((wM G x (a 0) s2 (gm_kset (gm_no r 1) (gm_no r 2) (gm_ad r n y z) n y z v)) ++ (wT G a (x 0) (gm_kset t t (gh_st t 6 (upd (t 6) n v)) n y z v))) H := by
            have e9 : gh_st (gh_st (gh_st (gh_st r 0 (fun _ => 0)) 5 (upd (r 5) n y)) 6 (upd (r 6) n z)) 4 (fun _ => nI (n + 1)) = gm_kset (gm_no r 1) (gm_no r 2) (gm_ad r n y z) n y z v := by first | (simp only [gm_kset, gm_ad, gm_no, gm_z, c_1, c_2, c_3, c_4, ↓reduceIte, if_true, if_false]; done) | (simp only [gm_kset, gm_ad, gm_no, gm_z]; simp only [c_1, c_2, c_3, c_4, ↓reduceIte, if_true, if_false]; done) | (simp [gm_kset, gm_ad, gm_no, gm_z, c_1, c_2, c_3, c_4, ↓reduceIte, if_true, if_false]; done)
            rw [← e9]
            have e9 : gh_st t 6 (upd (t 6) n v) = gm_kset t t (gh_st t 6 (upd (t 6) n v)) n y z v := by first | (simp only [gm_kset, gm_ad, gm_no, gm_z, c_1, c_2, c_3, c_4, ↓reduceIte, if_true, if_false]; done) | (simp only [gm_kset, gm_ad, gm_no, gm_z]; simp only [c_1, c_2, c_3, c_4, ↓reduceIte, if_true, if_false]; done) | (simp [gm_kset, gm_ad, gm_no, gm_z, c_1, c_2, c_3, c_4, ↓reduceIte, if_true, if_false]; done)
            rw [← e9]
            exact hP
          exact W.iret (v := nI n) hx hb hr (fun t9 ht hW => ⟨⟨nI n, (), rfl, by first | (simp only [gm_kset, gm_ad, gm_no, gm_z, c_1, c_2, c_3, c_4, ↓reduceIte, if_true, if_false]; done) | (simp only [gm_kset, gm_ad, gm_no, gm_z]; simp only [c_1, c_2, c_3, c_4, ↓reduceIte, if_true, if_false]; done) | (simp [gm_kset, gm_ad, gm_no, gm_z, c_1, c_2, c_3, c_4, ↓reduceIte, if_true, if_false]; done), gh_hp hP9 ht⟩, hS.F ht⟩) hS.2.2 dX4_set_104
        · skip
          refine lv_aload_n hx hb dX4_set_49 rfl (lv_at hl 0 rfl) ?_
          refine lv_iconst (v := 2) hx hb dX4_set_50 (by decide) ?_
          refine gh_cw (wr := wT G a (x 0) t) (ws' := (wM G x (a 0) s2 (gh_st (gh_st r 0 (fun _ => 0)) 0 (fun _ => 2))) ++ (wT G a (x 0) t)) (va_runV (As := [.int 2]) (rest := []) ⟨hx, hb, hml, hown, hts⟩ (c_X4_no l G H.size x (gh_st r 0 (fun _ => 0)) a t s2 2) (cwV 1 hts gX4_set_X4_no rfl rfl rfl ⟨rfl, hdS_X4_no⟩ ⟨Nat.le_of_ble_eq_true rfl, Nat.le_of_ble_eq_true rfl⟩) (gh_wV hE (hP.sub (ws' := wM G x (a 0) s2 (gh_st r 0 (fun _ => 0))) [0, 1, 2, 3] rfl) (hD.sub (ws' := wM G x (a 0) s2 (gh_st r 0 (fun _ => 0))) [0, 1, 2, 3] (by decide) rfl) (ci := 4) (q0 := 0) rfl rfl) rfl rfl hl.1 rfl (lv_room (Nat.le_of_ble_eq_true rfl)) dX4_set_51 ⟨Nat.le_of_ble_eq_true rfl, Nat.le_of_ble_eq_true rfl⟩) hP hD hS hA [0, 1, 2, 3] [4, 5, 6, 7, 8, 9, 10] [7, 8, 9, 10, 0, 1, 2, 3, 4, 5, 6] rfl rfl (by decide) (by decide) (by decide) [x 0, x 3, x 5, x 6] [x 0, x 3, x 5, x 6, a 0, a 4, a 5, a 6, a 7, a 8, a 9] rfl rfl rfl rfl rfl (fun H locs hP hD hS => ?_)
          have hP9 : va_P G.1 vwCl ((wM G x (a 0) s2 (gm_kset (gm_no r 1) (gm_no r 2) (gm_ad r n y z) n y z v)) ++ (wT G a (x 0) (gm_kset t t (gh_st t 6 (upd (t 6) n v)) n y z v))) H := by
            have e9 : gh_st (gh_st r 0 (fun _ => 0)) 0 (fun _ => 2) = gm_kset (gm_no r 1) (gm_no r 2) (gm_ad r n y z) n y z v := by first | (simp only [gm_kset, gm_ad, gm_no, gm_z, c_1, c_2, c_3, c_4, ↓reduceIte, if_true, if_false]; done) | (simp only [gm_kset, gm_ad, gm_no, gm_z]; simp only [c_1, c_2, c_3, c_4, ↓reduceIte, if_true, if_false]; done) | (simp [gm_kset, gm_ad, gm_no, gm_z, c_1, c_2, c_3, c_4, ↓reduceIte, if_true, if_false]; done)
            rw [← e9]
            have e9 : t = gm_kset t t (gh_st t 6 (upd (t 6) n v)) n y z v := by first | (simp only [gm_kset, gm_ad, gm_no, gm_z, c_1, c_2, c_3, c_4, ↓reduceIte, if_true, if_false]; done) | (simp only [gm_kset, gm_ad, gm_no, gm_z]; simp only [c_1, c_2, c_3, c_4, ↓reduceIte, if_true, if_false]; done) | (simp [gm_kset, gm_ad, gm_no, gm_z, c_1, c_2, c_3, c_4, ↓reduceIte, if_true, if_false]; done)
            rw [← e9]
            exact hP
          exact W.iret (v := 0) hx hb hr (fun t9 ht hW => ⟨⟨0, (), rfl, by first | (simp only [gm_kset, gm_ad, gm_no, gm_z, c_1, c_2, c_3, c_4, ↓reduceIte, if_true, if_false]; done) | (simp only [gm_kset, gm_ad, gm_no, gm_z]; simp only [c_1, c_2, c_3, c_4, ↓reduceIte, if_true, if_false]; done) | (simp [gm_kset, gm_ad, gm_no, gm_z, c_1, c_2, c_3, c_4, ↓reduceIte, if_true, if_false]; done), gh_hp hP9 ht⟩, hS.F ht⟩) hS.2.2 dX4_set_54
      · skip
        refine lv_aload_n hx hb dX4_set_34 rfl (lv_at hl 0 rfl) ?_
        refine lv_iconst (v := 1) hx hb dX4_set_35 (by decide) ?_
        refine gh_cw (wr := wT G a (x 0) t) (ws' := (wM G x (a 0) s2 (gh_st (gh_st r 0 (fun _ => 0)) 0 (fun _ => 1))) ++ (wT G a (x 0) t)) (va_runV (As := [.int 1]) (rest := []) ⟨hx, hb, hml, hown, hts⟩ (c_X4_no l G H.size x (gh_st r 0 (fun _ => 0)) a t s2 1) (cwV 1 hts gX4_set_X4_no rfl rfl rfl ⟨rfl, hdS_X4_no⟩ ⟨Nat.le_of_ble_eq_true rfl, Nat.le_of_ble_eq_true rfl⟩) (gh_wV hE (hP.sub (ws' := wM G x (a 0) s2 (gh_st r 0 (fun _ => 0))) [0, 1, 2, 3] rfl) (hD.sub (ws' := wM G x (a 0) s2 (gh_st r 0 (fun _ => 0))) [0, 1, 2, 3] (by decide) rfl) (ci := 4) (q0 := 0) rfl rfl) rfl rfl hl.1 rfl (lv_room (Nat.le_of_ble_eq_true rfl)) dX4_set_36 ⟨Nat.le_of_ble_eq_true rfl, Nat.le_of_ble_eq_true rfl⟩) hP hD hS hA [0, 1, 2, 3] [4, 5, 6, 7, 8, 9, 10] [7, 8, 9, 10, 0, 1, 2, 3, 4, 5, 6] rfl rfl (by decide) (by decide) (by decide) [x 0, x 3, x 5, x 6] [x 0, x 3, x 5, x 6, a 0, a 4, a 5, a 6, a 7, a 8, a 9] rfl rfl rfl rfl rfl (fun H locs hP hD hS => ?_)
        have hP9 : va_P G.1 vwCl ((wM G x (a 0) s2 (gm_kset (gm_no r 1) (gm_no r 2) (gm_ad r n y z) n y z v)) ++ (wT G a (x 0) (gm_kset t t (gh_st t 6 (upd (t 6) n v)) n y z v))) H := by
          have e9 : gh_st (gh_st r 0 (fun _ => 0)) 0 (fun _ => 1) = gm_kset (gm_no r 1) (gm_no r 2) (gm_ad r n y z) n y z v := by first | (simp only [gm_kset, gm_ad, gm_no, gm_z, c_1, c_2, c_3, ↓reduceIte, if_true, if_false]; done) | (simp only [gm_kset, gm_ad, gm_no, gm_z]; simp only [c_1, c_2, c_3, ↓reduceIte, if_true, if_false]; done) | (simp [gm_kset, gm_ad, gm_no, gm_z, c_1, c_2, c_3, ↓reduceIte, if_true, if_false]; done)
          rw [← e9]
          have e9 : t = gm_kset t t (gh_st t 6 (upd (t 6) n v)) n y z v := by first | (simp only [gm_kset, gm_ad, gm_no, gm_z, c_1, c_2, c_3, ↓reduceIte, if_true, if_false]; done) | (simp only [gm_kset, gm_ad, gm_no, gm_z]; simp only [c_1, c_2, c_3, ↓reduceIte, if_true, if_false]; done) | (simp [gm_kset, gm_ad, gm_no, gm_z, c_1, c_2, c_3, ↓reduceIte, if_true, if_false]; done)
          rw [← e9]
          exact hP
        exact W.iret (v := 0) hx hb hr (fun t9 ht hW => ⟨⟨0, (), rfl, by first | (simp only [gm_kset, gm_ad, gm_no, gm_z, c_1, c_2, c_3, ↓reduceIte, if_true, if_false]; done) | (simp only [gm_kset, gm_ad, gm_no, gm_z]; simp only [c_1, c_2, c_3, ↓reduceIte, if_true, if_false]; done) | (simp [gm_kset, gm_ad, gm_no, gm_z, c_1, c_2, c_3, ↓reduceIte, if_true, if_false]; done), gh_hp hP9 ht⟩, hS.F ht⟩) hS.2.2 dX4_set_39
set_option maxHeartbeats 4000000 in
set_option maxRecDepth 100000 in
theorem c_X4_drop (l : Launch) (G : gh_G) (sz : Nat) (x : Nat → Nat) (r : gh_B) (a : Nat → Nat) (t : gh_B) (s2 : Nat) (n : Nat) (y : Int32) (v : Int32) (hn : r 4 0 = nI n) (hn16 : n ≤ 16) (hsz : ∀ j : Nat, j < n → ¬ 4 * r 6 j = 0) : Met l yX4_drop wsX4_drop ({ frames := 2, cells := 0, slots := 0, locals := 43 } : Room) (gh_w G [.ref (x 0), .int y, .int v] ((wM G x (a 0) s2 r) ++ (wT G a (x 0) t)) sz) (va_Qi (fun (r9 : Int32) (_ : Unit) => r9 = gm_kdrop 0 0 0 (gm_tn (gm_z r) (gm_dr t y v) y.toNatClampNeg) r t n y v) (fun _ t9 => va_P G.1 vwCl ((wM G x (a 0) s2 (gm_kdrop (gm_no r 1) (gm_no r 2) (gm_no r 3) (gm_z r) r t n y v)) ++ (wT G a (x 0) (gm_kdrop t t t (gm_dr t y v) r t n y v))) t9.heap) (va_A ((wM G x (a 0) s2 r) ++ (wT G a (x 0) t)) sz)) 0 0 (va_A ((wM G x (a 0) s2 r) ++ (wT G a (x 0) t)) sz) := by
  refine Met.ofW (cc := cX4_drop) (maxL := 4) (ret := (some .int)) (by decide) rfl ?_
  intro p e s m args below meth c s₁ B hml hv
  obtain ⟨rfl, hsz, hP, hE, hD0⟩ := hv
  have hx := B.exec
  have hb := B.bytes
  have hr := B.returns
  have hts := atoms_spec (ws := wsX4_drop) B.pre
  have hown : s.vm.findClass RX4 = some m.cls := findClass_of_methodNamed B.named
  have hlocks := B.notSynchronized
  have hK := hE.1
  subst hsz
  have hD := hD0.self (sz := s.heap.size)
  generalize hAe : va_A ((wM G x (a 0) s2 r) ++ (wT G a (x 0) t)) s.heap.size = A at hD ⊢
  have hA : ∀ q : Nat, s.heap.size ≤ q → A q := fun q h => by rw [← hAe]; exact Or.inr h
  have hS : va_S A s.heap s.heap [] := va_S.rf
  have hl := lv_entry ([.ref (x 0), .int y, .int v]) (n := 4) (Nat.le_of_ble_eq_true rfl)
  rw [lg_entry_eq]
  generalize (lg_sl ([.ref (x 0), .int y, .int v]) ++ List.replicate (4 - (lg_sl ([.ref (x 0), .int y, .int v])).length) Slot.unset).toArray = ls at hl ⊢
  have hl : lv_has ls 4 [(0, .ref (x 0)), (1, .int y), (2, .int v)] := hl
  refine lv_aload_n hx hb dX4_drop_0 rfl (lv_at hl 0 rfl) ?_
  refine lv_iconst (v := 0) hx hb dX4_drop_1 (by decide) ?_
  refine va_put (D := G.1) (ci := 4) (v := .int 0) (ty := .int) (C := RX4) (T := TX4) (N := 9) hx hb hts (fun w9 h9 => List.mem_cons_of_mem _ (List.mem_append_left _ (List.mem_append_right _ h9))) tyX4 tyX4_ok nmX4 hown hK hP hD hS 0 rfl rfl 0 (by decide) (hts (.fieldLink RX4 35 "GlassHarpModel" "thrown" "I") (List.mem_of_getElem? (i := 1) rfl)) (fun _ h9 => h9) rfl (tyX4_ok 0 (by decide)) rfl rfl (Nat.le_of_ble_eq_true rfl) dX4_drop_2 (fun H locs hP hD hS => ?_)
  have hP : va_P G.1 vwCl ((wM G x (a 0) s2 (gh_st r 0 (fun _ => 0))) ++ (wT G a (x 0) t)) H := hP
  have hD : va_D A ((wM G x (a 0) s2 (gh_st r 0 (fun _ => 0))) ++ (wT G a (x 0) t)) := hD
  refine lv_aload_n hx hb dX4_drop_5 rfl (lv_at hl 0 rfl) ?_
  refine lv_iload_n hx hb dX4_drop_6 rfl (lv_at hl 1 rfl) ?_
  refine gh_ci (va_runV (As := [.int y]) (rest := []) ⟨hx, hb, hml, hown, hts⟩ (c_X4_isGlass l G x (gh_st r 0 (fun _ => 0)) a t s2 n y (hn)) (cwV 1 hts gX4_drop_X4_isGlass rfl rfl rfl ⟨rfl, hdS_X4_isGlass⟩ ⟨Nat.le_of_ble_eq_true rfl, Nat.le_of_ble_eq_true rfl⟩) (gh_rV hE (hP.sub (ws' := wM G x (a 0) s2 (gh_st r 0 (fun _ => 0))) [0, 1, 2, 3] rfl) (ci := 4) (q0 := 0) rfl rfl) rfl rfl hl.1 rfl (lv_room (Nat.le_of_ble_eq_true rfl)) dX4_drop_7 ⟨Nat.le_of_ble_eq_true rfl, Nat.le_of_ble_eq_true rfl⟩) ?_
  refine lv_if_ne (tgt := 19) hx hb dX4_drop_10 (by decide) (fun c_1 => ?_) (fun c_1 => ?_)
  · skip
    obtain ⟨k, hk, ek⟩ := gm_ig c_1 (Nat.lt_of_le_of_lt hn16 (by decide))
    have ekc : y.toNatClampNeg = k := by rw [ek, nI_clamp (Nat.lt_trans hk (Nat.lt_of_le_of_lt hn16 (by decide)))]
    refine lv_iload_n hx hb dX4_drop_19 rfl (lv_at hl 2 rfl) ?_
    refine lv_if_eq (tgt := 36) hx hb dX4_drop_20 (by decide) (fun c_2 => ?_) (fun c_2 => ?_)
    · skip
      refine lv_aload_n hx hb dX4_drop_36 rfl (lv_at hl 0 rfl) ?_
      refine lv_iconst (v := 2) hx hb dX4_drop_37 (by decide) ?_
      refine gh_cw (wr := wT G a (x 0) t) (ws' := (wM G x (a 0) s2 (gh_st (gh_st r 0 (fun _ => 0)) 0 (fun _ => 2))) ++ (wT G a (x 0) t)) (va_runV (As := [.int 2]) (rest := []) ⟨hx, hb, hml, hown, hts⟩ (c_X4_no l G H.size x (gh_st r 0 (fun _ => 0)) a t s2 2) (cwV 1 hts gX4_drop_X4_no rfl rfl rfl ⟨rfl, hdS_X4_no⟩ ⟨Nat.le_of_ble_eq_true rfl, Nat.le_of_ble_eq_true rfl⟩) (gh_wV hE (hP.sub (ws' := wM G x (a 0) s2 (gh_st r 0 (fun _ => 0))) [0, 1, 2, 3] rfl) (hD.sub (ws' := wM G x (a 0) s2 (gh_st r 0 (fun _ => 0))) [0, 1, 2, 3] (by decide) rfl) (ci := 4) (q0 := 0) rfl rfl) rfl rfl hl.1 rfl (lv_room (Nat.le_of_ble_eq_true rfl)) dX4_drop_38 ⟨Nat.le_of_ble_eq_true rfl, Nat.le_of_ble_eq_true rfl⟩) hP hD hS hA [0, 1, 2, 3] [4, 5, 6, 7, 8, 9, 10] [7, 8, 9, 10, 0, 1, 2, 3, 4, 5, 6] rfl rfl (by decide) (by decide) (by decide) [x 0, x 3, x 5, x 6] [x 0, x 3, x 5, x 6, a 0, a 4, a 5, a 6, a 7, a 8, a 9] rfl rfl rfl rfl rfl (fun H locs hP hD hS => ?_)
      have hP9 : va_P G.1 vwCl ((wM G x (a 0) s2 (gm_kdrop (gm_no r 1) (gm_no r 2) (gm_no r 3) (gm_z r) r t n y v)) ++ (wT G a (x 0) (gm_kdrop t t t (gm_dr t y v) r t n y v))) H := by
        have e9 : gh_st (gh_st r 0 (fun _ => 0)) 0 (fun _ => 2) = gm_kdrop (gm_no r 1) (gm_no r 2) (gm_no r 3) (gm_z r) r t n y v := by first | (simp only [gm_kdrop, gm_dr, gm_no, gm_z, c_1, ekc, c_2, ↓reduceIte, if_true, if_false]; done) | (simp only [gm_kdrop, gm_dr, gm_no, gm_z]; simp only [c_1, ekc, c_2, ↓reduceIte, if_true, if_false]; done) | (simp [gm_kdrop, gm_dr, gm_no, gm_z, c_1, ekc, c_2, ↓reduceIte, if_true, if_false]; done)
        rw [← e9]
        have e9 : t = gm_kdrop t t t (gm_dr t y v) r t n y v := by first | (simp only [gm_kdrop, gm_dr, gm_no, gm_z, c_1, ekc, c_2, ↓reduceIte, if_true, if_false]; done) | (simp only [gm_kdrop, gm_dr, gm_no, gm_z]; simp only [c_1, ekc, c_2, ↓reduceIte, if_true, if_false]; done) | (simp [gm_kdrop, gm_dr, gm_no, gm_z, c_1, ekc, c_2, ↓reduceIte, if_true, if_false]; done)
        rw [← e9]
        exact hP
      exact W.iret (v := 0) hx hb hr (fun t9 ht hW => ⟨⟨0, (), rfl, by first | (simp only [gm_kdrop, gm_dr, gm_no, gm_z, c_1, ekc, c_2, ↓reduceIte, if_true, if_false]; done) | (simp only [gm_kdrop, gm_dr, gm_no, gm_z]; simp only [c_1, ekc, c_2, ↓reduceIte, if_true, if_false]; done) | (simp [gm_kdrop, gm_dr, gm_no, gm_z, c_1, ekc, c_2, ↓reduceIte, if_true, if_false]; done), gh_hp hP9 ht⟩, hS.F ht⟩) hS.2.2 dX4_drop_41
    · skip
      refine lv_iload_n hx hb dX4_drop_23 rfl (lv_at hl 2 rfl) ?_
      refine lv_sipush (v := (-200)) hx hb dX4_drop_24 (by decide) ?_
      refine lv_sipush (v := 200) hx hb dX4_drop_27 (by decide) ?_
      refine gh_ci (va_runS (As := [.int v, .int (-200), .int 200]) (rest := []) ⟨hx, hb, hml, hown, hts⟩ (c_X4_isIn l G v (-200) 200) (va_cwS 3 hts gX4_drop_X4_isIn rfl rfl rfl hdS_X4_isIn ⟨Nat.le_of_ble_eq_true rfl, Nat.le_of_ble_eq_true rfl⟩) (gh_rS hE (fun k q h => by simp at h)) rfl rfl hl.1 rfl (lv_room (Nat.le_of_ble_eq_true rfl)) dX4_drop_30 ⟨Nat.le_of_ble_eq_true rfl, Nat.le_of_ble_eq_true rfl⟩) ?_
      refine lv_if_ne (tgt := 42) hx hb dX4_drop_33 (by decide) (fun c_3 => ?_) (fun c_3 => ?_)
      · skip
        refine lv_aload_n hx hb dX4_drop_42 rfl (lv_at hl 0 rfl) ?_
        refine va_get (D := G.1) (ci := 4) (v := .ref (a 0)) (C := RX4) (T := TX4) (N := 9) hx hb hts (fun w9 h9 => List.mem_cons_of_mem _ (List.mem_append_left _ (List.mem_append_right _ h9))) hown hK hP 0 rfl rfl 7 (by decide) (hts (.fieldLink RX4 28 "GlassHarpModel" "s" "LGlassHarpModel$State;") (List.mem_of_getElem? (i := 2) rfl)) (fun _ h9 => h9) rfl dX4_drop_43 ?_
        refine va_getN (D := G.1) (ci := 3) (v := .ref (a 6)) (C := RX3) (T := TX3) (N := 12) hx hb hts (fun w9 h9 => List.mem_cons_of_mem _ (List.mem_append_right _ h9)) hown hK hP 4 rfl rfl 6 (by decide) (va_Nw.use rfl (hE.2.2 (RX4, 53, "GlassHarpModel$State", "drops", "[I", RX4) (List.mem_of_getElem? (i := 28) rfl))) (fun _ h9 => h9) rfl dX4_drop_46 ?_
        refine lv_iload_n hx hb dX4_drop_49 rfl (lv_at hl 1 rfl) ?_
        refine gh_vv (y := nI k) (ek) ?_
        refine gh_ia (f := t 6) hx hb hK hP 7 0 rfl rfl k (rfl) (Nat.lt_of_lt_of_le hk hn16) (by decide) dX4_drop_50 ?_
        refine lv_iload_n hx hb dX4_drop_51 rfl (lv_at hl 2 rfl) ?_
        refine lv_iadd hx hb dX4_drop_52 ?_
        refine lv_istore_n (lv' := [(3, .int ((t 6 k) + v)), (0, .ref (x 0)), (1, .int y), (2, .int v)]) hx hb dX4_drop_53 rfl hl (by decide) rfl (fun ls hl => ?_)
        refine lv_aload_n hx hb dX4_drop_54 rfl (lv_at hl 1 rfl) ?_
        refine va_get (D := G.1) (ci := 4) (v := .ref (a 0)) (C := RX4) (T := TX4) (N := 9) hx hb hts (fun w9 h9 => List.mem_cons_of_mem _ (List.mem_append_left _ (List.mem_append_right _ h9))) hown hK hP 0 rfl rfl 7 (by decide) (hts (.fieldLink RX4 28 "GlassHarpModel" "s" "LGlassHarpModel$State;") (List.mem_of_getElem? (i := 2) rfl)) (fun _ h9 => h9) rfl dX4_drop_55 ?_
        refine va_getN (D := G.1) (ci := 3) (v := .ref (a 7)) (C := RX3) (T := TX3) (N := 12) hx hb hts (fun w9 h9 => List.mem_cons_of_mem _ (List.mem_append_right _ h9)) hown hK hP 4 rfl rfl 7 (by decide) (va_Nw.use rfl (hE.2.2 (RX4, 59, "GlassHarpModel$State", "broken", "[I", RX4) (List.mem_of_getElem? (i := 29) rfl))) (fun _ h9 => h9) rfl dX4_drop_58 ?_
        refine lv_iload_n hx hb dX4_drop_61 rfl (lv_at hl 2 rfl) ?_
        refine gh_vv (y := nI k) (ek) ?_
        refine gh_ia (f := t 7) hx hb hK hP 8 0 rfl rfl k (rfl) (Nat.lt_of_lt_of_le hk hn16) (by decide) dX4_drop_62 ?_
        refine lv_iconst (v := 1) hx hb dX4_drop_63 (by decide) ?_
        refine lv_icmp_eq (tgt := 84) hx hb dX4_drop_64 (by decide) (fun c_4 => ?_) (fun c_4 => ?_)
        · skip
          refine lv_aload_n hx hb dX4_drop_84 rfl (lv_at hl 1 rfl) ?_
          refine lv_iconst (v := 3) hx hb dX4_drop_85 (by decide) ?_
          refine gh_cw (wr := wT G a (x 0) t) (ws' := (wM G x (a 0) s2 (gh_st (gh_st r 0 (fun _ => 0)) 0 (fun _ => 3))) ++ (wT G a (x 0) t)) (va_runV (As := [.int 3]) (rest := []) ⟨hx, hb, hml, hown, hts⟩ (c_X4_no l G H.size x (gh_st r 0 (fun _ => 0)) a t s2 3) (cwV 1 hts gX4_drop_X4_no rfl rfl rfl ⟨rfl, hdS_X4_no⟩ ⟨Nat.le_of_ble_eq_true rfl, Nat.le_of_ble_eq_true rfl⟩) (gh_wV hE (hP.sub (ws' := wM G x (a 0) s2 (gh_st r 0 (fun _ => 0))) [0, 1, 2, 3] rfl) (hD.sub (ws' := wM G x (a 0) s2 (gh_st r 0 (fun _ => 0))) [0, 1, 2, 3] (by decide) rfl) (ci := 4) (q0 := 0) rfl rfl) rfl rfl hl.1 rfl (lv_room (Nat.le_of_ble_eq_true rfl)) dX4_drop_86 ⟨Nat.le_of_ble_eq_true rfl, Nat.le_of_ble_eq_true rfl⟩) hP hD hS hA [0, 1, 2, 3] [4, 5, 6, 7, 8, 9, 10] [7, 8, 9, 10, 0, 1, 2, 3, 4, 5, 6] rfl rfl (by decide) (by decide) (by decide) [x 0, x 3, x 5, x 6] [x 0, x 3, x 5, x 6, a 0, a 4, a 5, a 6, a 7, a 8, a 9] rfl rfl rfl rfl rfl (fun H locs hP hD hS => ?_)
          have hP9 : va_P G.1 vwCl ((wM G x (a 0) s2 (gm_kdrop (gm_no r 1) (gm_no r 2) (gm_no r 3) (gm_z r) r t n y v)) ++ (wT G a (x 0) (gm_kdrop t t t (gm_dr t y v) r t n y v))) H := by
            have e9 : gh_st (gh_st r 0 (fun _ => 0)) 0 (fun _ => 3) = gm_kdrop (gm_no r 1) (gm_no r 2) (gm_no r 3) (gm_z r) r t n y v := by first | (simp only [gm_kdrop, gm_dr, gm_no, gm_z, c_1, ekc, c_2, c_3, c_4, ↓reduceIte, if_true, if_false]; done) | (simp only [gm_kdrop, gm_dr, gm_no, gm_z]; simp only [c_1, ekc, c_2, c_3, c_4, ↓reduceIte, if_true, if_false]; done) | (simp [gm_kdrop, gm_dr, gm_no, gm_z, c_1, ekc, c_2, c_3, c_4, ↓reduceIte, if_true, if_false]; done)
            rw [← e9]
            have e9 : t = gm_kdrop t t t (gm_dr t y v) r t n y v := by first | (simp only [gm_kdrop, gm_dr, gm_no, gm_z, c_1, ekc, c_2, c_3, c_4, ↓reduceIte, if_true, if_false]; done) | (simp only [gm_kdrop, gm_dr, gm_no, gm_z]; simp only [c_1, ekc, c_2, c_3, c_4, ↓reduceIte, if_true, if_false]; done) | (simp [gm_kdrop, gm_dr, gm_no, gm_z, c_1, ekc, c_2, c_3, c_4, ↓reduceIte, if_true, if_false]; done)
            rw [← e9]
            exact hP
          exact W.iret (v := 0) hx hb hr (fun t9 ht hW => ⟨⟨0, (), rfl, by first | (simp only [gm_kdrop, gm_dr, gm_no, gm_z, c_1, ekc, c_2, c_3, c_4, ↓reduceIte, if_true, if_false]; done) | (simp only [gm_kdrop, gm_dr, gm_no, gm_z]; simp only [c_1, ekc, c_2, c_3, c_4, ↓reduceIte, if_true, if_false]; done) | (simp [gm_kdrop, gm_dr, gm_no, gm_z, c_1, ekc, c_2, c_3, c_4, ↓reduceIte, if_true, if_false]; done), gh_hp hP9 ht⟩, hS.F ht⟩) hS.2.2 dX4_drop_89
        · skip
          refine lv_iload_n hx hb dX4_drop_67 rfl (lv_at hl 0 rfl) ?_
          refine lv_iconst (v := 0) hx hb dX4_drop_68 (by decide) ?_
          refine lv_bipush (v := 100) hx hb dX4_drop_69 (by decide) ?_
          refine lv_aload_n hx hb dX4_drop_71 rfl (lv_at hl 1 rfl) ?_
          refine va_get (D := G.1) (ci := 4) (v := .ref (x 6)) (C := RX4) (T := TX4) (N := 9) hx hb hts (fun w9 h9 => List.mem_cons_of_mem _ (List.mem_append_left _ (List.mem_append_right _ h9))) hown hK hP 0 rfl rfl 6 (by decide) (hts (.fieldLink RX4 20 "GlassHarpModel" "size" "[I") (List.mem_of_getElem? (i := 3) rfl)) (fun _ h9 => h9) rfl dX4_drop_72 ?_
          refine lv_iload_n hx hb dX4_drop_75 rfl (lv_at hl 2 rfl) ?_
          refine gh_vv (y := nI k) (ek) ?_
          refine gh_ia (f := r 6) hx hb hK hP 3 0 rfl rfl k (rfl) (Nat.lt_of_lt_of_le hk hn16) (by decide) dX4_drop_76 ?_
          refine lv_imul hx hb dX4_drop_77 ?_
          refine gh_ci (va_runS (As := [.int ((t 6 k) + v), .int 0, .int (100 * (r 6 k))]) (rest := []) ⟨hx, hb, hml, hown, hts⟩ (c_X4_isIn l G ((t 6 k) + v) 0 (100 * (r 6 k))) (va_cwS 3 hts gX4_drop_X4_isIn rfl rfl rfl hdS_X4_isIn ⟨Nat.le_of_ble_eq_true rfl, Nat.le_of_ble_eq_true rfl⟩) (gh_rS hE (fun k q h => by simp at h)) rfl rfl hl.1 rfl (lv_room (Nat.le_of_ble_eq_true rfl)) dX4_drop_78 ⟨Nat.le_of_ble_eq_true rfl, Nat.le_of_ble_eq_true rfl⟩) ?_
          refine lv_if_ne (tgt := 90) hx hb dX4_drop_81 (by decide) (fun c_5 => ?_) (fun c_5 => ?_)
          · skip
            refine lv_aload_n hx hb dX4_drop_90 rfl (lv_at hl 1 rfl) ?_
            refine va_get (D := G.1) (ci := 4) (v := .ref (a 0)) (C := RX4) (T := TX4) (N := 9) hx hb hts (fun w9 h9 => List.mem_cons_of_mem _ (List.mem_append_left _ (List.mem_append_right _ h9))) hown hK hP 0 rfl rfl 7 (by decide) (hts (.fieldLink RX4 28 "GlassHarpModel" "s" "LGlassHarpModel$State;") (List.mem_of_getElem? (i := 2) rfl)) (fun _ h9 => h9) rfl dX4_drop_91 ?_
            refine va_getN (D := G.1) (ci := 3) (v := .ref (a 6)) (C := RX3) (T := TX3) (N := 12) hx hb hts (fun w9 h9 => List.mem_cons_of_mem _ (List.mem_append_right _ h9)) hown hK hP 4 rfl rfl 6 (by decide) (va_Nw.use rfl (hE.2.2 (RX4, 53, "GlassHarpModel$State", "drops", "[I", RX4) (List.mem_of_getElem? (i := 28) rfl))) (fun _ h9 => h9) rfl dX4_drop_94 ?_
            refine lv_iload_n hx hb dX4_drop_97 rfl (lv_at hl 2 rfl) ?_
            refine gh_vv (y := nI k) (ek) ?_
            refine lv_iload_n hx hb dX4_drop_98 rfl (lv_at hl 0 rfl) ?_
            refine gh_is (f := t 6) (ws' := (wM G x (a 0) s2 (gh_st r 0 (fun _ => 0))) ++ (wT G a (x 0) (gh_st t 6 (upd (t 6) k ((t 6 k) + v))))) hx hb hK hP hD hS 7 0 rfl rfl k (rfl) (Nat.lt_of_lt_of_le hk hn16) (by decide) dX4_drop_99 rfl (fun H locs hP hD hS => ?_)
            refine lv_aload_n hx hb dX4_drop_100 rfl (lv_at hl 1 rfl) ?_
            refine va_get (D := G.1) (ci := 4) (v := .ref (a 0)) (C := RX4) (T := TX4) (N := 9) hx hb hts (fun w9 h9 => List.mem_cons_of_mem _ (List.mem_append_left _ (List.mem_append_right _ h9))) hown hK hP 0 rfl rfl 7 (by decide) (hts (.fieldLink RX4 28 "GlassHarpModel" "s" "LGlassHarpModel$State;") (List.mem_of_getElem? (i := 2) rfl)) (fun _ h9 => h9) rfl dX4_drop_101 ?_
            refine lv_iload_n hx hb dX4_drop_104 rfl (lv_at hl 2 rfl) ?_
            refine gh_vv (y := nI k) (ek) ?_
            refine gh_ci (va_runV (As := [.int (nI k)]) (rest := []) ⟨hx, hb, hml, hown, hts⟩ (c_X3_tone l G a (gh_st t 6 (upd (t 6) k ((t 6 k) + v))) x (a 0) s2 (gh_st r 0 (fun _ => 0)) k (Nat.lt_of_lt_of_le hk hn16) (hsz k hk)) (cwV 1 hts gX4_drop_X3_tone rfl rfl rfl ⟨rfl, hdS_X3_tone⟩ ⟨Nat.le_of_ble_eq_true rfl, Nat.le_of_ble_eq_true rfl⟩) (gh_rV hE (hP.sub (ws' := (wT G a (x 0) (gh_st t 6 (upd (t 6) k ((t 6 k) + v)))) ++ (wM G x (a 0) s2 (gh_st r 0 (fun _ => 0)))) [4, 5, 6, 7, 8, 9, 10, 0, 1, 2, 3] rfl) (ci := 3) (q0 := 0) rfl rfl) rfl rfl hl.1 rfl (lv_room (Nat.le_of_ble_eq_true rfl)) dX4_drop_105 ⟨Nat.le_of_ble_eq_true rfl, Nat.le_of_ble_eq_true rfl⟩) ?_
            have hP9 : va_P G.1 vwCl ((wM G x (a 0) s2 (gm_kdrop (gm_no r 1) (gm_no r 2) (gm_no r 3) (gm_z r) r t n y v)) ++ (wT G a (x 0) (gm_kdrop t t t (gm_dr t y v) r t n y v))) H := by
              have e9 : gh_st r 0 (fun _ => 0) = gm_kdrop (gm_no r 1) (gm_no r 2) (gm_no r 3) (gm_z r) r t n y v := by first | (simp only [gm_kdrop, gm_dr, gm_no, gm_z, c_1, ekc, c_2, c_3, c_4, c_5, ↓reduceIte, if_true, if_false]; done) | (simp only [gm_kdrop, gm_dr, gm_no, gm_z]; simp only [c_1, ekc, c_2, c_3, c_4, c_5, ↓reduceIte, if_true, if_false]; done) | (simp [gm_kdrop, gm_dr, gm_no, gm_z, c_1, ekc, c_2, c_3, c_4, c_5, ↓reduceIte, if_true, if_false]; done)
              rw [← e9]
              have e9 : gh_st t 6 (upd (t 6) k ((t 6 k) + v)) = gm_kdrop t t t (gm_dr t y v) r t n y v := by first | (simp only [gm_kdrop, gm_dr, gm_no, gm_z, c_1, ekc, c_2, c_3, c_4, c_5, ↓reduceIte, if_true, if_false]; done) | (simp only [gm_kdrop, gm_dr, gm_no, gm_z]; simp only [c_1, ekc, c_2, c_3, c_4, c_5, ↓reduceIte, if_true, if_false]; done) | (simp [gm_kdrop, gm_dr, gm_no, gm_z, c_1, ekc, c_2, c_3, c_4, c_5, ↓reduceIte, if_true, if_false]; done)
              rw [← e9]
              exact hP
            exact W.iret (v := gm_tn (gh_st r 0 (fun _ => 0)) (gh_st t 6 (upd (t 6) k ((t 6 k) + v))) k) hx hb hr (fun t9 ht hW => ⟨⟨gm_tn (gh_st r 0 (fun _ => 0)) (gh_st t 6 (upd (t 6) k ((t 6 k) + v))) k, (), rfl, by first | (simp only [gm_kdrop, gm_dr, gm_no, gm_z, c_1, ekc, c_2, c_3, c_4, c_5, ↓reduceIte, if_true, if_false]; done) | (simp only [gm_kdrop, gm_dr, gm_no, gm_z]; simp only [c_1, ekc, c_2, c_3, c_4, c_5, ↓reduceIte, if_true, if_false]; done) | (simp [gm_kdrop, gm_dr, gm_no, gm_z, c_1, ekc, c_2, c_3, c_4, c_5, ↓reduceIte, if_true, if_false]; done), gh_hp hP9 ht⟩, hS.F ht⟩) hS.2.2 dX4_drop_108
          · skip
            refine lv_aload_n hx hb dX4_drop_84 rfl (lv_at hl 1 rfl) ?_
            refine lv_iconst (v := 3) hx hb dX4_drop_85 (by decide) ?_
            refine gh_cw (wr := wT G a (x 0) t) (ws' := (wM G x (a 0) s2 (gh_st (gh_st r 0 (fun _ => 0)) 0 (fun _ => 3))) ++ (wT G a (x 0) t)) (va_runV (As := [.int 3]) (rest := []) ⟨hx, hb, hml, hown, hts⟩ (c_X4_no l G H.size x (gh_st r 0 (fun _ => 0)) a t s2 3) (cwV 1 hts gX4_drop_X4_no rfl rfl rfl ⟨rfl, hdS_X4_no⟩ ⟨Nat.le_of_ble_eq_true rfl, Nat.le_of_ble_eq_true rfl⟩) (gh_wV hE (hP.sub (ws' := wM G x (a 0) s2 (gh_st r 0 (fun _ => 0))) [0, 1, 2, 3] rfl) (hD.sub (ws' := wM G x (a 0) s2 (gh_st r 0 (fun _ => 0))) [0, 1, 2, 3] (by decide) rfl) (ci := 4) (q0 := 0) rfl rfl) rfl rfl hl.1 rfl (lv_room (Nat.le_of_ble_eq_true rfl)) dX4_drop_86 ⟨Nat.le_of_ble_eq_true rfl, Nat.le_of_ble_eq_true rfl⟩) hP hD hS hA [0, 1, 2, 3] [4, 5, 6, 7, 8, 9, 10] [7, 8, 9, 10, 0, 1, 2, 3, 4, 5, 6] rfl rfl (by decide) (by decide) (by decide) [x 0, x 3, x 5, x 6] [x 0, x 3, x 5, x 6, a 0, a 4, a 5, a 6, a 7, a 8, a 9] rfl rfl rfl rfl rfl (fun H locs hP hD hS => ?_)
            have hP9 : va_P G.1 vwCl ((wM G x (a 0) s2 (gm_kdrop (gm_no r 1) (gm_no r 2) (gm_no r 3) (gm_z r) r t n y v)) ++ (wT G a (x 0) (gm_kdrop t t t (gm_dr t y v) r t n y v))) H := by
              have e9 : gh_st (gh_st r 0 (fun _ => 0)) 0 (fun _ => 3) = gm_kdrop (gm_no r 1) (gm_no r 2) (gm_no r 3) (gm_z r) r t n y v := by first | (simp only [gm_kdrop, gm_dr, gm_no, gm_z, c_1, ekc, c_2, c_3, c_4, c_5, ↓reduceIte, if_true, if_false]; done) | (simp only [gm_kdrop, gm_dr, gm_no, gm_z]; simp only [c_1, ekc, c_2, c_3, c_4, c_5, ↓reduceIte, if_true, if_false]; done) | (simp [gm_kdrop, gm_dr, gm_no, gm_z, c_1, ekc, c_2, c_3, c_4, c_5, ↓reduceIte, if_true, if_false]; done)
              rw [← e9]
              have e9 : t = gm_kdrop t t t (gm_dr t y v) r t n y v := by first | (simp only [gm_kdrop, gm_dr, gm_no, gm_z, c_1, ekc, c_2, c_3, c_4, c_5, ↓reduceIte, if_true, if_false]; done) | (simp only [gm_kdrop, gm_dr, gm_no, gm_z]; simp only [c_1, ekc, c_2, c_3, c_4, c_5, ↓reduceIte, if_true, if_false]; done) | (simp [gm_kdrop, gm_dr, gm_no, gm_z, c_1, ekc, c_2, c_3, c_4, c_5, ↓reduceIte, if_true, if_false]; done)
              rw [← e9]
              exact hP
            exact W.iret (v := 0) hx hb hr (fun t9 ht hW => ⟨⟨0, (), rfl, by first | (simp only [gm_kdrop, gm_dr, gm_no, gm_z, c_1, ekc, c_2, c_3, c_4, c_5, ↓reduceIte, if_true, if_false]; done) | (simp only [gm_kdrop, gm_dr, gm_no, gm_z]; simp only [c_1, ekc, c_2, c_3, c_4, c_5, ↓reduceIte, if_true, if_false]; done) | (simp [gm_kdrop, gm_dr, gm_no, gm_z, c_1, ekc, c_2, c_3, c_4, c_5, ↓reduceIte, if_true, if_false]; done), gh_hp hP9 ht⟩, hS.F ht⟩) hS.2.2 dX4_drop_89
      · skip
        refine lv_aload_n hx hb dX4_drop_36 rfl (lv_at hl 0 rfl) ?_
        refine lv_iconst (v := 2) hx hb dX4_drop_37 (by decide) ?_
        refine gh_cw (wr := wT G a (x 0) t) (ws' := (wM G x (a 0) s2 (gh_st (gh_st r 0 (fun _ => 0)) 0 (fun _ => 2))) ++ (wT G a (x 0) t)) (va_runV (As := [.int 2]) (rest := []) ⟨hx, hb, hml, hown, hts⟩ (c_X4_no l G H.size x (gh_st r 0 (fun _ => 0)) a t s2 2) (cwV 1 hts gX4_drop_X4_no rfl rfl rfl ⟨rfl, hdS_X4_no⟩ ⟨Nat.le_of_ble_eq_true rfl, Nat.le_of_ble_eq_true rfl⟩) (gh_wV hE (hP.sub (ws' := wM G x (a 0) s2 (gh_st r 0 (fun _ => 0))) [0, 1, 2, 3] rfl) (hD.sub (ws' := wM G x (a 0) s2 (gh_st r 0 (fun _ => 0))) [0, 1, 2, 3] (by decide) rfl) (ci := 4) (q0 := 0) rfl rfl) rfl rfl hl.1 rfl (lv_room (Nat.le_of_ble_eq_true rfl)) dX4_drop_38 ⟨Nat.le_of_ble_eq_true rfl, Nat.le_of_ble_eq_true rfl⟩) hP hD hS hA [0, 1, 2, 3] [4, 5, 6, 7, 8, 9, 10] [7, 8, 9, 10, 0, 1, 2, 3, 4, 5, 6] rfl rfl (by decide) (by decide) (by decide) [x 0, x 3, x 5, x 6] [x 0, x 3, x 5, x 6, a 0, a 4, a 5, a 6, a 7, a 8, a 9] rfl rfl rfl rfl rfl (fun H locs hP hD hS => ?_)
        have hP9 : va_P G.1 vwCl ((wM G x (a 0) s2 (gm_kdrop (gm_no r 1) (gm_no r 2) (gm_no r 3) (gm_z r) r t n y v)) ++ (wT G a (x 0) (gm_kdrop t t t (gm_dr t y v) r t n y v))) H := by
          have e9 : gh_st (gh_st r 0 (fun _ => 0)) 0 (fun _ => 2) = gm_kdrop (gm_no r 1) (gm_no r 2) (gm_no r 3) (gm_z r) r t n y v := by first | (simp only [gm_kdrop, gm_dr, gm_no, gm_z, c_1, ekc, c_2, c_3, ↓reduceIte, if_true, if_false]; done) | (simp only [gm_kdrop, gm_dr, gm_no, gm_z]; simp only [c_1, ekc, c_2, c_3, ↓reduceIte, if_true, if_false]; done) | (simp [gm_kdrop, gm_dr, gm_no, gm_z, c_1, ekc, c_2, c_3, ↓reduceIte, if_true, if_false]; done)
          rw [← e9]
          have e9 : t = gm_kdrop t t t (gm_dr t y v) r t n y v := by first | (simp only [gm_kdrop, gm_dr, gm_no, gm_z, c_1, ekc, c_2, c_3, ↓reduceIte, if_true, if_false]; done) | (simp only [gm_kdrop, gm_dr, gm_no, gm_z]; simp only [c_1, ekc, c_2, c_3, ↓reduceIte, if_true, if_false]; done) | (simp [gm_kdrop, gm_dr, gm_no, gm_z, c_1, ekc, c_2, c_3, ↓reduceIte, if_true, if_false]; done)
          rw [← e9]
          exact hP
        exact W.iret (v := 0) hx hb hr (fun t9 ht hW => ⟨⟨0, (), rfl, by first | (simp only [gm_kdrop, gm_dr, gm_no, gm_z, c_1, ekc, c_2, c_3, ↓reduceIte, if_true, if_false]; done) | (simp only [gm_kdrop, gm_dr, gm_no, gm_z]; simp only [c_1, ekc, c_2, c_3, ↓reduceIte, if_true, if_false]; done) | (simp [gm_kdrop, gm_dr, gm_no, gm_z, c_1, ekc, c_2, c_3, ↓reduceIte, if_true, if_false]; done), gh_hp hP9 ht⟩, hS.F ht⟩) hS.2.2 dX4_drop_41
  · skip
    refine lv_aload_n hx hb dX4_drop_13 rfl (lv_at hl 0 rfl) ?_
    refine lv_iconst (v := 1) hx hb dX4_drop_14 (by decide) ?_
    refine gh_cw (wr := wT G a (x 0) t) (ws' := (wM G x (a 0) s2 (gh_st (gh_st r 0 (fun _ => 0)) 0 (fun _ => 1))) ++ (wT G a (x 0) t)) (va_runV (As := [.int 1]) (rest := []) ⟨hx, hb, hml, hown, hts⟩ (c_X4_no l G H.size x (gh_st r 0 (fun _ => 0)) a t s2 1) (cwV 1 hts gX4_drop_X4_no rfl rfl rfl ⟨rfl, hdS_X4_no⟩ ⟨Nat.le_of_ble_eq_true rfl, Nat.le_of_ble_eq_true rfl⟩) (gh_wV hE (hP.sub (ws' := wM G x (a 0) s2 (gh_st r 0 (fun _ => 0))) [0, 1, 2, 3] rfl) (hD.sub (ws' := wM G x (a 0) s2 (gh_st r 0 (fun _ => 0))) [0, 1, 2, 3] (by decide) rfl) (ci := 4) (q0 := 0) rfl rfl) rfl rfl hl.1 rfl (lv_room (Nat.le_of_ble_eq_true rfl)) dX4_drop_15 ⟨Nat.le_of_ble_eq_true rfl, Nat.le_of_ble_eq_true rfl⟩) hP hD hS hA [0, 1, 2, 3] [4, 5, 6, 7, 8, 9, 10] [7, 8, 9, 10, 0, 1, 2, 3, 4, 5, 6] rfl rfl (by decide) (by decide) (by decide) [x 0, x 3, x 5, x 6] [x 0, x 3, x 5, x 6, a 0, a 4, a 5, a 6, a 7, a 8, a 9] rfl rfl rfl rfl rfl (fun H locs hP hD hS => ?_)
    have hP9 : va_P G.1 vwCl ((wM G x (a 0) s2 (gm_kdrop (gm_no r 1) (gm_no r 2) (gm_no r 3) (gm_z r) r t n y v)) ++ (wT G a (x 0) (gm_kdrop t t t (gm_dr t y v) r t n y v))) H := by
      have e9 : gh_st (gh_st r 0 (fun _ => 0)) 0 (fun _ => 1) = gm_kdrop (gm_no r 1) (gm_no r 2) (gm_no r 3) (gm_z r) r t n y v := by first | (simp only [gm_kdrop, gm_dr, gm_no, gm_z, c_1, ↓reduceIte, if_true, if_false]; done) | (simp only [gm_kdrop, gm_dr, gm_no, gm_z]; simp only [c_1, ↓reduceIte, if_true, if_false]; done) | (simp [gm_kdrop, gm_dr, gm_no, gm_z, c_1, ↓reduceIte, if_true, if_false]; done)
      rw [← e9]
      have e9 : t = gm_kdrop t t t (gm_dr t y v) r t n y v := by first | (simp only [gm_kdrop, gm_dr, gm_no, gm_z, c_1, ↓reduceIte, if_true, if_false]; done) | (simp only [gm_kdrop, gm_dr, gm_no, gm_z]; simp only [c_1, ↓reduceIte, if_true, if_false]; done) | (simp [gm_kdrop, gm_dr, gm_no, gm_z, c_1, ↓reduceIte, if_true, if_false]; done)
      rw [← e9]
      exact hP
    exact W.iret (v := 0) hx hb hr (fun t9 ht hW => ⟨⟨0, (), rfl, by first | (simp only [gm_kdrop, gm_dr, gm_no, gm_z, c_1, ↓reduceIte, if_true, if_false]; done) | (simp only [gm_kdrop, gm_dr, gm_no, gm_z]; simp only [c_1, ↓reduceIte, if_true, if_false]; done) | (simp [gm_kdrop, gm_dr, gm_no, gm_z, c_1, ↓reduceIte, if_true, if_false]; done), gh_hp hP9 ht⟩, hS.F ht⟩) hS.2.2 dX4_drop_18
set_option maxHeartbeats 4000000 in
set_option maxRecDepth 100000 in
theorem c_X4_pump (l : Launch) (G : gh_G) (sz : Nat) (x : Nat → Nat) (r : gh_B) (a : Nat → Nat) (t : gh_B) (s2 : Nat) (y : Int32) (v : Int32)  : Met l yX4_pump wsX4_pump ({ frames := 2, cells := 0, slots := 0, locals := 42 } : Room) (gh_w G [.ref (x 0), .int y, .int v] ((wM G x (a 0) s2 r) ++ (wT G a (x 0) t)) sz) (va_Qi (fun (r9 : Int32) (_ : Unit) => r9 = gm_kpump 0 0 (t 5 y.toNatClampNeg) y v) (fun _ t9 => va_P G.1 vwCl ((wM G x (a 0) s2 (gm_kpump (gm_no r 1) (gm_no r 2) (gm_z r) y v)) ++ (wT G a (x 0) (gm_kpump t t (gh_st t 5 (upd (t 5) y.toNatClampNeg v)) y v))) t9.heap) (va_A ((wM G x (a 0) s2 r) ++ (wT G a (x 0) t)) sz)) 0 0 (va_A ((wM G x (a 0) s2 r) ++ (wT G a (x 0) t)) sz) := by
  refine Met.ofW (cc := cX4_pump) (maxL := 4) (ret := (some .int)) (by decide) rfl ?_
  intro p e s m args below meth c s₁ B hml hv
  obtain ⟨rfl, hsz, hP, hE, hD0⟩ := hv
  have hx := B.exec
  have hb := B.bytes
  have hr := B.returns
  have hts := atoms_spec (ws := wsX4_pump) B.pre
  have hown : s.vm.findClass RX4 = some m.cls := findClass_of_methodNamed B.named
  have hlocks := B.notSynchronized
  have hK := hE.1
  subst hsz
  have hD := hD0.self (sz := s.heap.size)
  generalize hAe : va_A ((wM G x (a 0) s2 r) ++ (wT G a (x 0) t)) s.heap.size = A at hD ⊢
  have hA : ∀ q : Nat, s.heap.size ≤ q → A q := fun q h => by rw [← hAe]; exact Or.inr h
  have hS : va_S A s.heap s.heap [] := va_S.rf
  have hl := lv_entry ([.ref (x 0), .int y, .int v]) (n := 4) (Nat.le_of_ble_eq_true rfl)
  rw [lg_entry_eq]
  generalize (lg_sl ([.ref (x 0), .int y, .int v]) ++ List.replicate (4 - (lg_sl ([.ref (x 0), .int y, .int v])).length) Slot.unset).toArray = ls at hl ⊢
  have hl : lv_has ls 4 [(0, .ref (x 0)), (1, .int y), (2, .int v)] := hl
  refine lv_aload_n hx hb dX4_pump_0 rfl (lv_at hl 0 rfl) ?_
  refine lv_iconst (v := 0) hx hb dX4_pump_1 (by decide) ?_
  refine va_put (D := G.1) (ci := 4) (v := .int 0) (ty := .int) (C := RX4) (T := TX4) (N := 9) hx hb hts (fun w9 h9 => List.mem_cons_of_mem _ (List.mem_append_left _ (List.mem_append_right _ h9))) tyX4 tyX4_ok nmX4 hown hK hP hD hS 0 rfl rfl 0 (by decide) (hts (.fieldLink RX4 35 "GlassHarpModel" "thrown" "I") (List.mem_of_getElem? (i := 1) rfl)) (fun _ h9 => h9) rfl (tyX4_ok 0 (by decide)) rfl rfl (Nat.le_of_ble_eq_true rfl) dX4_pump_2 (fun H locs hP hD hS => ?_)
  have hP : va_P G.1 vwCl ((wM G x (a 0) s2 (gh_st r 0 (fun _ => 0))) ++ (wT G a (x 0) t)) H := hP
  have hD : va_D A ((wM G x (a 0) s2 (gh_st r 0 (fun _ => 0))) ++ (wT G a (x 0) t)) := hD
  refine lv_iload_n hx hb dX4_pump_5 rfl (lv_at hl 1 rfl) ?_
  refine gh_ci (va_runS (As := [.int y]) (rest := []) ⟨hx, hb, hml, hown, hts⟩ (c_X4_isRow l G y) (va_cwS 1 hts gX4_pump_X4_isRow rfl rfl rfl hdS_X4_isRow ⟨Nat.le_of_ble_eq_true rfl, Nat.le_of_ble_eq_true rfl⟩) (gh_rS hE (fun k q h => by simp at h)) rfl rfl hl.1 rfl (lv_room (Nat.le_of_ble_eq_true rfl)) dX4_pump_6 ⟨Nat.le_of_ble_eq_true rfl, Nat.le_of_ble_eq_true rfl⟩) ?_
  refine lv_if_ne (tgt := 18) hx hb dX4_pump_9 (by decide) (fun c_1 => ?_) (fun c_1 => ?_)
  · skip
    refine lv_iload_n hx hb dX4_pump_18 rfl (lv_at hl 2 rfl) ?_
    refine lv_iconst (v := 0) hx hb dX4_pump_19 (by decide) ?_
    refine lv_bipush (v := 9) hx hb dX4_pump_20 (by decide) ?_
    refine gh_ci (va_runS (As := [.int v, .int 0, .int 9]) (rest := []) ⟨hx, hb, hml, hown, hts⟩ (c_X4_isIn l G v 0 9) (va_cwS 3 hts gX4_pump_X4_isIn rfl rfl rfl hdS_X4_isIn ⟨Nat.le_of_ble_eq_true rfl, Nat.le_of_ble_eq_true rfl⟩) (gh_rS hE (fun k q h => by simp at h)) rfl rfl hl.1 rfl (lv_room (Nat.le_of_ble_eq_true rfl)) dX4_pump_22 ⟨Nat.le_of_ble_eq_true rfl, Nat.le_of_ble_eq_true rfl⟩) ?_
    refine lv_if_ne (tgt := 34) hx hb dX4_pump_25 (by decide) (fun c_2 => ?_) (fun c_2 => ?_)
    · skip
      refine lv_aload_n hx hb dX4_pump_34 rfl (lv_at hl 0 rfl) ?_
      refine va_get (D := G.1) (ci := 4) (v := .ref (a 0)) (C := RX4) (T := TX4) (N := 9) hx hb hts (fun w9 h9 => List.mem_cons_of_mem _ (List.mem_append_left _ (List.mem_append_right _ h9))) hown hK hP 0 rfl rfl 7 (by decide) (hts (.fieldLink RX4 28 "GlassHarpModel" "s" "LGlassHarpModel$State;") (List.mem_of_getElem? (i := 2) rfl)) (fun _ h9 => h9) rfl dX4_pump_35 ?_
      refine va_getN (D := G.1) (ci := 3) (v := .ref (a 5)) (C := RX3) (T := TX3) (N := 12) hx hb hts (fun w9 h9 => List.mem_cons_of_mem _ (List.mem_append_right _ h9)) hown hK hP 4 rfl rfl 5 (by decide) (va_Nw.use rfl (hE.2.2 (RX4, 65, "GlassHarpModel$State", "pump", "[I", RX4) (List.mem_of_getElem? (i := 27) rfl))) (fun _ h9 => h9) rfl dX4_pump_38 ?_
      refine lv_iload_n hx hb dX4_pump_41 rfl (lv_at hl 1 rfl) ?_
      refine va_iald (f := t 5) hx hb hK hP 6 0 rfl rfl (gh_iw_in c_1) dX4_pump_42 ?_
      refine lv_istore_n (lv' := [(3, .int (t 5 y.toNatClampNeg)), (0, .ref (x 0)), (1, .int y), (2, .int v)]) hx hb dX4_pump_43 rfl hl (by decide) rfl (fun ls hl => ?_)
      refine lv_aload_n hx hb dX4_pump_44 rfl (lv_at hl 1 rfl) ?_
      refine va_get (D := G.1) (ci := 4) (v := .ref (a 0)) (C := RX4) (T := TX4) (N := 9) hx hb hts (fun w9 h9 => List.mem_cons_of_mem _ (List.mem_append_left _ (List.mem_append_right _ h9))) hown hK hP 0 rfl rfl 7 (by decide) (hts (.fieldLink RX4 28 "GlassHarpModel" "s" "LGlassHarpModel$State;") (List.mem_of_getElem? (i := 2) rfl)) (fun _ h9 => h9) rfl dX4_pump_45 ?_
      refine va_getN (D := G.1) (ci := 3) (v := .ref (a 5)) (C := RX3) (T := TX3) (N := 12) hx hb hts (fun w9 h9 => List.mem_cons_of_mem _ (List.mem_append_right _ h9)) hown hK hP 4 rfl rfl 5 (by decide) (va_Nw.use rfl (hE.2.2 (RX4, 65, "GlassHarpModel$State", "pump", "[I", RX4) (List.mem_of_getElem? (i := 27) rfl))) (fun _ h9 => h9) rfl dX4_pump_48 ?_
      refine lv_iload_n hx hb dX4_pump_51 rfl (lv_at hl 2 rfl) ?_
      refine lv_iload_n hx hb dX4_pump_52 rfl (lv_at hl 3 rfl) ?_
      refine va_iast (f := t 5) hx hb hK hP hD hS 6 0 rfl rfl (gh_iw_in c_1) dX4_pump_53 (fun H locs hP hD hS => ?_)
      have hP : va_P G.1 vwCl ((wM G x (a 0) s2 (gh_st r 0 (fun _ => 0))) ++ (wT G a (x 0) (gh_st t 5 (upd (t 5) y.toNatClampNeg v)))) H := hP
      have hD : va_D A ((wM G x (a 0) s2 (gh_st r 0 (fun _ => 0))) ++ (wT G a (x 0) (gh_st t 5 (upd (t 5) y.toNatClampNeg v)))) := hD
      refine lv_iload_n hx hb dX4_pump_54 rfl (lv_at hl 0 rfl) ?_
      have hP9 : va_P G.1 vwCl ((wM G x (a 0) s2 (gm_kpump (gm_no r 1) (gm_no r 2) (gm_z r) y v)) ++ (wT G a (x 0) (gm_kpump t t (gh_st t 5 (upd (t 5) y.toNatClampNeg v)) y v))) H := by
        have e9 : gh_st r 0 (fun _ => 0) = gm_kpump (gm_no r 1) (gm_no r 2) (gm_z r) y v := by first | (simp only [gm_kpump, gm_no, gm_z, c_1, c_2, ↓reduceIte, if_true, if_false]; done) | (simp only [gm_kpump, gm_no, gm_z]; simp only [c_1, c_2, ↓reduceIte, if_true, if_false]; done) | (simp [gm_kpump, gm_no, gm_z, c_1, c_2, ↓reduceIte, if_true, if_false]; done)
        rw [← e9]
        have e9 : gh_st t 5 (upd (t 5) y.toNatClampNeg v) = gm_kpump t t (gh_st t 5 (upd (t 5) y.toNatClampNeg v)) y v := by first | (simp only [gm_kpump, gm_no, gm_z, c_1, c_2, ↓reduceIte, if_true, if_false]; done) | (simp only [gm_kpump, gm_no, gm_z]; simp only [c_1, c_2, ↓reduceIte, if_true, if_false]; done) | (simp [gm_kpump, gm_no, gm_z, c_1, c_2, ↓reduceIte, if_true, if_false]; done)
        rw [← e9]
        exact hP
      exact W.iret (v := t 5 y.toNatClampNeg) hx hb hr (fun t9 ht hW => ⟨⟨t 5 y.toNatClampNeg, (), rfl, by first | (simp only [gm_kpump, gm_no, gm_z, c_1, c_2, ↓reduceIte, if_true, if_false]; done) | (simp only [gm_kpump, gm_no, gm_z]; simp only [c_1, c_2, ↓reduceIte, if_true, if_false]; done) | (simp [gm_kpump, gm_no, gm_z, c_1, c_2, ↓reduceIte, if_true, if_false]; done), gh_hp hP9 ht⟩, hS.F ht⟩) hS.2.2 dX4_pump_55
    · skip
      refine lv_aload_n hx hb dX4_pump_28 rfl (lv_at hl 0 rfl) ?_
      refine lv_iconst (v := 2) hx hb dX4_pump_29 (by decide) ?_
      refine gh_cw (wr := wT G a (x 0) t) (ws' := (wM G x (a 0) s2 (gh_st (gh_st r 0 (fun _ => 0)) 0 (fun _ => 2))) ++ (wT G a (x 0) t)) (va_runV (As := [.int 2]) (rest := []) ⟨hx, hb, hml, hown, hts⟩ (c_X4_no l G H.size x (gh_st r 0 (fun _ => 0)) a t s2 2) (cwV 1 hts gX4_pump_X4_no rfl rfl rfl ⟨rfl, hdS_X4_no⟩ ⟨Nat.le_of_ble_eq_true rfl, Nat.le_of_ble_eq_true rfl⟩) (gh_wV hE (hP.sub (ws' := wM G x (a 0) s2 (gh_st r 0 (fun _ => 0))) [0, 1, 2, 3] rfl) (hD.sub (ws' := wM G x (a 0) s2 (gh_st r 0 (fun _ => 0))) [0, 1, 2, 3] (by decide) rfl) (ci := 4) (q0 := 0) rfl rfl) rfl rfl hl.1 rfl (lv_room (Nat.le_of_ble_eq_true rfl)) dX4_pump_30 ⟨Nat.le_of_ble_eq_true rfl, Nat.le_of_ble_eq_true rfl⟩) hP hD hS hA [0, 1, 2, 3] [4, 5, 6, 7, 8, 9, 10] [7, 8, 9, 10, 0, 1, 2, 3, 4, 5, 6] rfl rfl (by decide) (by decide) (by decide) [x 0, x 3, x 5, x 6] [x 0, x 3, x 5, x 6, a 0, a 4, a 5, a 6, a 7, a 8, a 9] rfl rfl rfl rfl rfl (fun H locs hP hD hS => ?_)
      have hP9 : va_P G.1 vwCl ((wM G x (a 0) s2 (gm_kpump (gm_no r 1) (gm_no r 2) (gm_z r) y v)) ++ (wT G a (x 0) (gm_kpump t t (gh_st t 5 (upd (t 5) y.toNatClampNeg v)) y v))) H := by
        have e9 : gh_st (gh_st r 0 (fun _ => 0)) 0 (fun _ => 2) = gm_kpump (gm_no r 1) (gm_no r 2) (gm_z r) y v := by first | (simp only [gm_kpump, gm_no, gm_z, c_1, c_2, ↓reduceIte, if_true, if_false]; done) | (simp only [gm_kpump, gm_no, gm_z]; simp only [c_1, c_2, ↓reduceIte, if_true, if_false]; done) | (simp [gm_kpump, gm_no, gm_z, c_1, c_2, ↓reduceIte, if_true, if_false]; done)
        rw [← e9]
        have e9 : t = gm_kpump t t (gh_st t 5 (upd (t 5) y.toNatClampNeg v)) y v := by first | (simp only [gm_kpump, gm_no, gm_z, c_1, c_2, ↓reduceIte, if_true, if_false]; done) | (simp only [gm_kpump, gm_no, gm_z]; simp only [c_1, c_2, ↓reduceIte, if_true, if_false]; done) | (simp [gm_kpump, gm_no, gm_z, c_1, c_2, ↓reduceIte, if_true, if_false]; done)
        rw [← e9]
        exact hP
      exact W.iret (v := 0) hx hb hr (fun t9 ht hW => ⟨⟨0, (), rfl, by first | (simp only [gm_kpump, gm_no, gm_z, c_1, c_2, ↓reduceIte, if_true, if_false]; done) | (simp only [gm_kpump, gm_no, gm_z]; simp only [c_1, c_2, ↓reduceIte, if_true, if_false]; done) | (simp [gm_kpump, gm_no, gm_z, c_1, c_2, ↓reduceIte, if_true, if_false]; done), gh_hp hP9 ht⟩, hS.F ht⟩) hS.2.2 dX4_pump_33
  · skip
    refine lv_aload_n hx hb dX4_pump_12 rfl (lv_at hl 0 rfl) ?_
    refine lv_iconst (v := 1) hx hb dX4_pump_13 (by decide) ?_
    refine gh_cw (wr := wT G a (x 0) t) (ws' := (wM G x (a 0) s2 (gh_st (gh_st r 0 (fun _ => 0)) 0 (fun _ => 1))) ++ (wT G a (x 0) t)) (va_runV (As := [.int 1]) (rest := []) ⟨hx, hb, hml, hown, hts⟩ (c_X4_no l G H.size x (gh_st r 0 (fun _ => 0)) a t s2 1) (cwV 1 hts gX4_pump_X4_no rfl rfl rfl ⟨rfl, hdS_X4_no⟩ ⟨Nat.le_of_ble_eq_true rfl, Nat.le_of_ble_eq_true rfl⟩) (gh_wV hE (hP.sub (ws' := wM G x (a 0) s2 (gh_st r 0 (fun _ => 0))) [0, 1, 2, 3] rfl) (hD.sub (ws' := wM G x (a 0) s2 (gh_st r 0 (fun _ => 0))) [0, 1, 2, 3] (by decide) rfl) (ci := 4) (q0 := 0) rfl rfl) rfl rfl hl.1 rfl (lv_room (Nat.le_of_ble_eq_true rfl)) dX4_pump_14 ⟨Nat.le_of_ble_eq_true rfl, Nat.le_of_ble_eq_true rfl⟩) hP hD hS hA [0, 1, 2, 3] [4, 5, 6, 7, 8, 9, 10] [7, 8, 9, 10, 0, 1, 2, 3, 4, 5, 6] rfl rfl (by decide) (by decide) (by decide) [x 0, x 3, x 5, x 6] [x 0, x 3, x 5, x 6, a 0, a 4, a 5, a 6, a 7, a 8, a 9] rfl rfl rfl rfl rfl (fun H locs hP hD hS => ?_)
    have hP9 : va_P G.1 vwCl ((wM G x (a 0) s2 (gm_kpump (gm_no r 1) (gm_no r 2) (gm_z r) y v)) ++ (wT G a (x 0) (gm_kpump t t (gh_st t 5 (upd (t 5) y.toNatClampNeg v)) y v))) H := by
      have e9 : gh_st (gh_st r 0 (fun _ => 0)) 0 (fun _ => 1) = gm_kpump (gm_no r 1) (gm_no r 2) (gm_z r) y v := by first | (simp only [gm_kpump, gm_no, gm_z, c_1, ↓reduceIte, if_true, if_false]; done) | (simp only [gm_kpump, gm_no, gm_z]; simp only [c_1, ↓reduceIte, if_true, if_false]; done) | (simp [gm_kpump, gm_no, gm_z, c_1, ↓reduceIte, if_true, if_false]; done)
      rw [← e9]
      have e9 : t = gm_kpump t t (gh_st t 5 (upd (t 5) y.toNatClampNeg v)) y v := by first | (simp only [gm_kpump, gm_no, gm_z, c_1, ↓reduceIte, if_true, if_false]; done) | (simp only [gm_kpump, gm_no, gm_z]; simp only [c_1, ↓reduceIte, if_true, if_false]; done) | (simp [gm_kpump, gm_no, gm_z, c_1, ↓reduceIte, if_true, if_false]; done)
      rw [← e9]
      exact hP
    exact W.iret (v := 0) hx hb hr (fun t9 ht hW => ⟨⟨0, (), rfl, by first | (simp only [gm_kpump, gm_no, gm_z, c_1, ↓reduceIte, if_true, if_false]; done) | (simp only [gm_kpump, gm_no, gm_z]; simp only [c_1, ↓reduceIte, if_true, if_false]; done) | (simp [gm_kpump, gm_no, gm_z, c_1, ↓reduceIte, if_true, if_false]; done), gh_hp hP9 ht⟩, hS.F ht⟩) hS.2.2 dX4_pump_17
set_option maxHeartbeats 4000000 in
set_option maxRecDepth 100000 in
theorem c_X4_against (l : Launch) (G : gh_G) (x : Nat → Nat) (r : gh_B) (a : Nat → Nat) (t : gh_B) (s2 : Nat) (n : Nat) (k : Nat) (hn : r 4 0 = nI n) (hn16 : n ≤ 16) (hsz : ∀ j : Nat, j < n → ¬ 4 * r 6 j = 0) (hk : k < n) : Met l yX4_against wsX4_against ({ frames := 3, cells := 0, slots := 0, locals := 65 } : Room) (gh_r G [.ref (x 0), .int (nI k)] ((wM G x (a 0) s2 r) ++ (wT G a (x 0) t))) (vp_Si (fun r9 => r9 = gm_an r t k n)) 0 0 (fun _ => False) := by
  refine Met.ofW (cc := cX4_against) (maxL := 4) (ret := (some .int)) (by decide) rfl ?_
  intro p e s m args below meth c s₁ B hml hv
  obtain ⟨rfl, hP, hE⟩ := hv
  have hx := B.exec
  have hb := B.bytes
  have hr := B.returns
  have hts := atoms_spec (ws := wsX4_against) B.pre
  have hown : s.vm.findClass RX4 = some m.cls := findClass_of_methodNamed B.named
  have hlocks := B.notSynchronized
  have hK := hE.1
  have hl := lv_entry ([.ref (x 0), .int (nI k)]) (n := 4) (Nat.le_of_ble_eq_true rfl)
  rw [lg_entry_eq]
  generalize (lg_sl ([.ref (x 0), .int (nI k)]) ++ List.replicate (4 - (lg_sl ([.ref (x 0), .int (nI k)])).length) Slot.unset).toArray = ls at hl ⊢
  have hl : lv_has ls 4 [(0, .ref (x 0)), (1, .int (nI k))] := hl
  refine lv_iconst (v := 0) hx hb dX4_against_0 (by decide) ?_
  refine lv_istore_n (lv' := [(2, .int 0), (0, .ref (x 0)), (1, .int (nI k))]) hx hb dX4_against_1 rfl hl (by decide) rfl (fun ls hl => ?_)
  refine lv_iconst (v := 0) hx hb dX4_against_2 (by decide) ?_
  refine lv_istore_n (lv' := [(3, .int 0), (2, .int 0), (0, .ref (x 0)), (1, .int (nI k))]) hx hb dX4_against_3 rfl hl (by decide) rfl (fun ls hl => ?_)
  have J4 : ∀ (x2 : Int32), (x2 = gm_an r t k 0) → ∀ (ls : Array Slot), lv_has ls 4 [(0, .ref (x 0)), (1, .int (nI k)), (2, .int x2), (3, .int (nI 0))] → W p l e (headSpec wsX4_against ({ frames := 3, cells := 0, slots := 0, locals := 65 } : Room)).room s m ([.ref (x 0), .int (nI k)] : List Value).toArray below meth c s.heap [] 0 0 (MQ below (vp_Si (fun r9 => r9 = gm_an r t k n)) ([.ref (x 0), .int (nI k)] : List Value).toArray s 0 0 (fun _ => False)) (F0 m 4 ls []) := by
    refine gh_loop (n := n) (i0 := 0) (Nat.zero_le _) (P := fun i => ∀ (x2 : Int32), (x2 = gm_an r t k i) → ∀ (ls : Array Slot), lv_has ls 4 [(0, .ref (x 0)), (1, .int (nI k)), (2, .int x2), (3, .int (nI i))] → W p l e (headSpec wsX4_against ({ frames := 3, cells := 0, slots := 0, locals := 65 } : Room)).room s m ([.ref (x 0), .int (nI k)] : List Value).toArray below meth c s.heap [] 0 0 (MQ below (vp_Si (fun r9 => r9 = gm_an r t k n)) ([.ref (x 0), .int (nI k)] : List Value).toArray s 0 0 (fun _ => False)) (F0 m 4 ls [])) ?_ ?_
    · skip
      intro x2 e2 ls hl
      subst e2
      refine lv_iload_n hx hb dX4_against_4 rfl (lv_at hl 3 rfl) ?_
      refine lv_aload_n hx hb dX4_against_5 rfl (lv_at hl 0 rfl) ?_
      refine va_get (D := G.1) (ci := 4) (v := .int (r 4 0)) (C := RX4) (T := TX4) (N := 9) hx hb hts (fun w9 h9 => List.mem_cons_of_mem _ (List.mem_append_left _ (List.mem_append_right _ h9))) hown hK hP 0 rfl rfl 4 (by decide) (hts (.fieldLink RX4 38 "GlassHarpModel" "glasses" "I") (List.mem_of_getElem? (i := 1) rfl)) (fun _ h9 => h9) rfl dX4_against_6 ?_
      refine gh_vv (y := nI n) (hn) ?_
      refine lv_icmp_ge (tgt := 43) hx hb dX4_against_9 (by decide) (fun c_1 => ?_) (fun c_1 => absurd (nI_le (Nat.le_refl _) (Nat.lt_of_le_of_lt hn16 (by decide))) c_1)
      refine lv_iload_n hx hb dX4_against_43 rfl (lv_at hl 2 rfl) ?_
      exact W.iret (v := gm_an r t k n) hx hb hr (fun t9 ht hW => ⟨gm_an r t k n, rfl, rfl, ht⟩) (fun q hq => absurd hq List.not_mem_nil) dX4_against_44
    · intro i hi_lo hi ih
      intro x2 e2 ls hl
      subst e2
      refine lv_iload_n hx hb dX4_against_4 rfl (lv_at hl 3 rfl) ?_
      refine lv_aload_n hx hb dX4_against_5 rfl (lv_at hl 0 rfl) ?_
      refine va_get (D := G.1) (ci := 4) (v := .int (r 4 0)) (C := RX4) (T := TX4) (N := 9) hx hb hts (fun w9 h9 => List.mem_cons_of_mem _ (List.mem_append_left _ (List.mem_append_right _ h9))) hown hK hP 0 rfl rfl 4 (by decide) (hts (.fieldLink RX4 38 "GlassHarpModel" "glasses" "I") (List.mem_of_getElem? (i := 1) rfl)) (fun _ h9 => h9) rfl dX4_against_6 ?_
      refine gh_vv (y := nI n) (hn) ?_
      refine lv_icmp_ge (tgt := 43) hx hb dX4_against_9 (by decide) (fun c_2 => absurd c_2 (nI_ge hi (Nat.lt_of_le_of_lt hn16 (by decide)))) (fun c_2 => ?_)
      refine lv_iload_n hx hb dX4_against_12 rfl (lv_at hl 2 rfl) ?_
      refine lv_iload_n hx hb dX4_against_13 rfl (lv_at hl 3 rfl) ?_
      refine lv_iload_n hx hb dX4_against_14 rfl (lv_at hl 1 rfl) ?_
      refine lv_icmp_eq (tgt := 34) hx hb dX4_against_15 (by decide) (fun c_3 => ?_) (fun c_3 => ?_)
      · skip
        refine lv_iconst (v := 0) hx hb dX4_against_34 (by decide) ?_
        refine lv_iadd hx hb dX4_against_35 ?_
        refine lv_istore_n (lv' := [(2, .int ((gm_an r t k i) + 0)), (0, .ref (x 0)), (1, .int (nI k)), (3, .int (nI i))]) hx hb dX4_against_36 rfl hl (by decide) rfl (fun ls hl => ?_)
        refine lv_iinc (v := nI (i + 1)) (lv' := [(3, .int (nI (i + 1))), (2, .int ((gm_an r t k i) + 0)), (0, .ref (x 0)), (1, .int (nI k))]) hx hb dX4_against_37 hl (k := 3) rfl (nI_1 i) (by decide) rfl (fun ls hl => ?_)
        refine lv_goto (tgt := 4) hx hb dX4_against_40 (by decide) ?_
        exact ih ((gm_an r t k i) + 0) (by first | (simp only [gm_an, c_2, c_3, ↓reduceIte, if_true, if_false]; done) | (simp only [gm_an]; simp only [c_2, c_3, ↓reduceIte, if_true, if_false]; done) | (simp [gm_an, c_2, c_3, ↓reduceIte, if_true, if_false]; done)) _ (lv_sub hl [2, 3, 1, 0] rfl)
      · skip
        refine lv_aload_n hx hb dX4_against_18 rfl (lv_at hl 0 rfl) ?_
        refine va_get (D := G.1) (ci := 4) (v := .ref (a 0)) (C := RX4) (T := TX4) (N := 9) hx hb hts (fun w9 h9 => List.mem_cons_of_mem _ (List.mem_append_left _ (List.mem_append_right _ h9))) hown hK hP 0 rfl rfl 7 (by decide) (hts (.fieldLink RX4 28 "GlassHarpModel" "s" "LGlassHarpModel$State;") (List.mem_of_getElem? (i := 2) rfl)) (fun _ h9 => h9) rfl dX4_against_19 ?_
        refine lv_iload_n hx hb dX4_against_22 rfl (lv_at hl 3 rfl) ?_
        refine lv_iload_n hx hb dX4_against_23 rfl (lv_at hl 1 rfl) ?_
        refine gh_ci (va_runV (As := [.int (nI i), .int (nI k)]) (rest := [.int (gm_an r t k i)]) ⟨hx, hb, hml, hown, hts⟩ (c_X3_isAgainst l G a t x (a 0) s2 r i k (Nat.lt_of_lt_of_le hi hn16) (hsz i hi) (Nat.lt_of_lt_of_le hk hn16) (hsz k hk)) (cwV 2 hts gX4_against_X3_isAgainst rfl rfl rfl ⟨rfl, hdS_X3_isAgainst⟩ ⟨Nat.le_of_ble_eq_true rfl, Nat.le_of_ble_eq_true rfl⟩) (gh_rV hE (hP.sub (ws' := (wT G a (x 0) t) ++ (wM G x (a 0) s2 r)) [4, 5, 6, 7, 8, 9, 10, 0, 1, 2, 3] rfl) (ci := 3) (q0 := 0) rfl rfl) rfl rfl hl.1 rfl (lv_room (Nat.le_of_ble_eq_true rfl)) dX4_against_24 ⟨Nat.le_of_ble_eq_true rfl, Nat.le_of_ble_eq_true rfl⟩) ?_
        refine lv_if_eq (tgt := 34) hx hb dX4_against_27 (by decide) (fun c_4 => ?_) (fun c_4 => ?_)
        · skip
          refine lv_iconst (v := 0) hx hb dX4_against_34 (by decide) ?_
          refine lv_iadd hx hb dX4_against_35 ?_
          refine lv_istore_n (lv' := [(2, .int ((gm_an r t k i) + 0)), (0, .ref (x 0)), (1, .int (nI k)), (3, .int (nI i))]) hx hb dX4_against_36 rfl hl (by decide) rfl (fun ls hl => ?_)
          refine lv_iinc (v := nI (i + 1)) (lv' := [(3, .int (nI (i + 1))), (2, .int ((gm_an r t k i) + 0)), (0, .ref (x 0)), (1, .int (nI k))]) hx hb dX4_against_37 hl (k := 3) rfl (nI_1 i) (by decide) rfl (fun ls hl => ?_)
          refine lv_goto (tgt := 4) hx hb dX4_against_40 (by decide) ?_
          exact ih ((gm_an r t k i) + 0) (by first | (simp only [gm_an, c_2, c_3, c_4, ↓reduceIte, if_true, if_false]; done) | (simp only [gm_an]; simp only [c_2, c_3, c_4, ↓reduceIte, if_true, if_false]; done) | (simp [gm_an, c_2, c_3, c_4, ↓reduceIte, if_true, if_false]; done)) _ (lv_sub hl [2, 3, 1, 0] rfl)
        · skip
          refine lv_iconst (v := 1) hx hb dX4_against_30 (by decide) ?_
          refine lv_goto (tgt := 35) hx hb dX4_against_31 (by decide) ?_
          refine lv_iadd hx hb dX4_against_35 ?_
          refine lv_istore_n (lv' := [(2, .int ((gm_an r t k i) + 1)), (0, .ref (x 0)), (1, .int (nI k)), (3, .int (nI i))]) hx hb dX4_against_36 rfl hl (by decide) rfl (fun ls hl => ?_)
          refine lv_iinc (v := nI (i + 1)) (lv' := [(3, .int (nI (i + 1))), (2, .int ((gm_an r t k i) + 1)), (0, .ref (x 0)), (1, .int (nI k))]) hx hb dX4_against_37 hl (k := 3) rfl (nI_1 i) (by decide) rfl (fun ls hl => ?_)
          refine lv_goto (tgt := 4) hx hb dX4_against_40 (by decide) ?_
          exact ih ((gm_an r t k i) + 1) (by first | (simp only [gm_an, c_2, c_3, c_4, ↓reduceIte, if_true, if_false]; done) | (simp only [gm_an]; simp only [c_2, c_3, c_4, ↓reduceIte, if_true, if_false]; done) | (simp [gm_an, c_2, c_3, c_4, ↓reduceIte, if_true, if_false]; done)) _ (lv_sub hl [2, 3, 1, 0] rfl)
  exact J4 0 (by first | (simp only [gm_an, ↓reduceIte, if_true, if_false]; done) | (simp only [gm_an, ↓reduceIte, if_true, if_false]; rfl) | (simp [gm_an, ↓reduceIte, if_true, if_false]; done)) _ (lv_sub hl [2, 3, 1, 0] rfl)
set_option maxHeartbeats 4000000 in
set_option maxRecDepth 100000 in
theorem c_X4_glassTold (l : Launch) (G : gh_G) (sz : Nat) (x : Nat → Nat) (r : gh_B) (a : Nat → Nat) (t : gh_B) (s2 : Nat) (n : Nat) (k : Nat) (w : Nat) (hn : r 4 0 = nI n) (hn16 : n ≤ 16) (hsz : ∀ j : Nat, j < n → ¬ 4 * r 6 j = 0) (hk : k < n) (hw : w < 8) : Met l yX4_glassTold wsX4_glassTold ({ frames := 4, cells := 1, slots := 8, locals := 88 } : Room) (gh_w G [.ref (x 0), .int (nI k), .int (nI w)] ((wM G x (a 0) s2 r) ++ (wT G a (x 0) t)) sz) (va_Qi (fun (r9 : Int32) (_ : Unit) => r9 = gm_gl r t n k w) (fun _ t9 => va_P G.1 vwCl ((wM G x (a 0) s2 r) ++ (wT G a (x 0) t)) t9.heap) (va_A ((wM G x (a 0) s2 r) ++ (wT G a (x 0) t)) sz)) 1 8 (va_A ((wM G x (a 0) s2 r) ++ (wT G a (x 0) t)) sz) := by
  refine Met.ofW (cc := cX4_glassTold) (maxL := 4) (ret := (some .int)) (by decide) rfl ?_
  intro p e s m args below meth c s₁ B hml hv
  obtain ⟨rfl, hsz, hP, hE, hD0⟩ := hv
  have hx := B.exec
  have hb := B.bytes
  have hr := B.returns
  have hts := atoms_spec (ws := wsX4_glassTold) B.pre
  have hown : s.vm.findClass RX4 = some m.cls := findClass_of_methodNamed B.named
  have hlocks := B.notSynchronized
  have hK := hE.1
  subst hsz
  have hD := hD0.self (sz := s.heap.size)
  generalize hAe : va_A ((wM G x (a 0) s2 r) ++ (wT G a (x 0) t)) s.heap.size = A at hD ⊢
  have hA : ∀ q : Nat, s.heap.size ≤ q → A q := fun q h => by rw [← hAe]; exact Or.inr h
  have hS : va_S A s.heap s.heap [] := va_S.rf
  have hl := lv_entry ([.ref (x 0), .int (nI k), .int (nI w)]) (n := 4) (Nat.le_of_ble_eq_true rfl)
  rw [lg_entry_eq]
  generalize (lg_sl ([.ref (x 0), .int (nI k), .int (nI w)]) ++ List.replicate (4 - (lg_sl ([.ref (x 0), .int (nI k), .int (nI w)])).length) Slot.unset).toArray = ls at hl ⊢
  have hl : lv_has ls 4 [(0, .ref (x 0)), (1, .int (nI k)), (2, .int (nI w))] := hl
  refine lv_bipush (v := 8) hx hb dX4_glassTold_0 (by decide) ?_
  refine gh_na hx hb (hts (.arrayClass .int) (List.mem_of_getElem? (i := 1) rfl)) hK hP hD hS hA 8 (rfl) (by decide) (Nat.le_of_ble_eq_true rfl) (Nat.le_of_ble_eq_true rfl) dX4_glassTold_2 (fun q_1 H hP hD hS => ?_)
  have hP : va_P G.1 vwCl ((wM G x (a 0) s2 r) ++ (wT G a (x 0) t) ++ ([(q_1, .inl (G.2.1, 8, .inl ((fun _ => 0))))])) H := hP
  have hD : va_D A ((wM G x (a 0) s2 r) ++ (wT G a (x 0) t) ++ ([(q_1, .inl (G.2.1, 8, .inl ((fun _ => 0))))])) := hD
  refine lv_dup hx hb dX4_glassTold_4 rfl ?_
  refine lv_iconst (v := 0) hx hb dX4_glassTold_5 (by decide) ?_
  refine lv_aload_n hx hb dX4_glassTold_6 rfl (lv_at hl 0 rfl) ?_
  refine va_get (D := G.1) (ci := 4) (v := .ref (x 5)) (C := RX4) (T := TX4) (N := 9) hx hb hts (fun w9 h9 => List.mem_cons_of_mem _ (List.mem_append_left _ (List.mem_append_right _ h9))) hown hK hP 0 rfl rfl 5 (by decide) (hts (.fieldLink RX4 17 "GlassHarpModel" "row" "[I") (List.mem_of_getElem? (i := 2) rfl)) (fun _ h9 => h9) rfl dX4_glassTold_7 ?_
  refine lv_iload_n hx hb dX4_glassTold_10 rfl (lv_at hl 1 rfl) ?_
  refine gh_ia (f := r 5) hx hb hK hP 2 0 rfl rfl k (rfl) (Nat.lt_of_lt_of_le hk hn16) (by decide) dX4_glassTold_11 ?_
  refine gh_is (f := (fun _ => 0)) (ws' := (wM G x (a 0) s2 r) ++ (wT G a (x 0) t) ++ ([(q_1, .inl (G.2.1, 8, .inl (upd (fun _ => 0) 0 (r 5 k))))])) hx hb hK hP hD hS 11 0 rfl rfl 0 (rfl) (by decide) (by decide) dX4_glassTold_12 rfl (fun H locs hP hD hS => ?_)
  refine lv_dup hx hb dX4_glassTold_13 rfl ?_
  refine lv_iconst (v := 1) hx hb dX4_glassTold_14 (by decide) ?_
  refine lv_aload_n hx hb dX4_glassTold_15 rfl (lv_at hl 0 rfl) ?_
  refine va_get (D := G.1) (ci := 4) (v := .ref (x 6)) (C := RX4) (T := TX4) (N := 9) hx hb hts (fun w9 h9 => List.mem_cons_of_mem _ (List.mem_append_left _ (List.mem_append_right _ h9))) hown hK hP 0 rfl rfl 6 (by decide) (hts (.fieldLink RX4 20 "GlassHarpModel" "size" "[I") (List.mem_of_getElem? (i := 3) rfl)) (fun _ h9 => h9) rfl dX4_glassTold_16 ?_
  refine lv_iload_n hx hb dX4_glassTold_19 rfl (lv_at hl 1 rfl) ?_
  refine gh_ia (f := r 6) hx hb hK hP 3 0 rfl rfl k (rfl) (Nat.lt_of_lt_of_le hk hn16) (by decide) dX4_glassTold_20 ?_
  refine gh_is (f := upd (fun _ => 0) 0 (r 5 k)) (ws' := (wM G x (a 0) s2 r) ++ (wT G a (x 0) t) ++ ([(q_1, .inl (G.2.1, 8, .inl (upd (upd (fun _ => 0) 0 (r 5 k)) 1 (r 6 k))))])) hx hb hK hP hD hS 11 0 rfl rfl 1 (rfl) (by decide) (by decide) dX4_glassTold_21 rfl (fun H locs hP hD hS => ?_)
  refine lv_dup hx hb dX4_glassTold_22 rfl ?_
  refine lv_iconst (v := 2) hx hb dX4_glassTold_23 (by decide) ?_
  refine lv_aload_n hx hb dX4_glassTold_24 rfl (lv_at hl 0 rfl) ?_
  refine va_get (D := G.1) (ci := 4) (v := .ref (a 0)) (C := RX4) (T := TX4) (N := 9) hx hb hts (fun w9 h9 => List.mem_cons_of_mem _ (List.mem_append_left _ (List.mem_append_right _ h9))) hown hK hP 0 rfl rfl 7 (by decide) (hts (.fieldLink RX4 28 "GlassHarpModel" "s" "LGlassHarpModel$State;") (List.mem_of_getElem? (i := 4) rfl)) (fun _ h9 => h9) rfl dX4_glassTold_25 ?_
  refine va_getN (D := G.1) (ci := 3) (v := .ref (a 6)) (C := RX3) (T := TX3) (N := 12) hx hb hts (fun w9 h9 => List.mem_cons_of_mem _ (List.mem_append_right _ h9)) hown hK hP 4 rfl rfl 6 (by decide) (va_Nw.use rfl (hE.2.2 (RX4, 53, "GlassHarpModel$State", "drops", "[I", RX4) (List.mem_of_getElem? (i := 28) rfl))) (fun _ h9 => h9) rfl dX4_glassTold_28 ?_
  refine lv_iload_n hx hb dX4_glassTold_31 rfl (lv_at hl 1 rfl) ?_
  refine gh_ia (f := t 6) hx hb hK hP 7 0 rfl rfl k (rfl) (Nat.lt_of_lt_of_le hk hn16) (by decide) dX4_glassTold_32 ?_
  refine gh_is (f := upd (upd (fun _ => 0) 0 (r 5 k)) 1 (r 6 k)) (ws' := (wM G x (a 0) s2 r) ++ (wT G a (x 0) t) ++ ([(q_1, .inl (G.2.1, 8, .inl (upd (upd (upd (fun _ => 0) 0 (r 5 k)) 1 (r 6 k)) 2 (t 6 k))))])) hx hb hK hP hD hS 11 0 rfl rfl 2 (rfl) (by decide) (by decide) dX4_glassTold_33 rfl (fun H locs hP hD hS => ?_)
  refine lv_dup hx hb dX4_glassTold_34 rfl ?_
  refine lv_iconst (v := 3) hx hb dX4_glassTold_35 (by decide) ?_
  refine lv_aload_n hx hb dX4_glassTold_36 rfl (lv_at hl 0 rfl) ?_
  refine va_get (D := G.1) (ci := 4) (v := .ref (a 0)) (C := RX4) (T := TX4) (N := 9) hx hb hts (fun w9 h9 => List.mem_cons_of_mem _ (List.mem_append_left _ (List.mem_append_right _ h9))) hown hK hP 0 rfl rfl 7 (by decide) (hts (.fieldLink RX4 28 "GlassHarpModel" "s" "LGlassHarpModel$State;") (List.mem_of_getElem? (i := 4) rfl)) (fun _ h9 => h9) rfl dX4_glassTold_37 ?_
  refine lv_iload_n hx hb dX4_glassTold_40 rfl (lv_at hl 1 rfl) ?_
  refine gh_ci (va_runV (As := [.int (nI k)]) (rest := [.int 3, .ref q_1, .ref q_1]) ⟨hx, hb, hml, hown, hts⟩ (c_X3_tone l G a t x (a 0) s2 r k (Nat.lt_of_lt_of_le hk hn16) (hsz k hk)) (cwV 1 hts gX4_glassTold_X3_tone rfl rfl rfl ⟨rfl, hdS_X3_tone⟩ ⟨Nat.le_of_ble_eq_true rfl, Nat.le_of_ble_eq_true rfl⟩) (gh_rV hE (hP.sub (ws' := (wT G a (x 0) t) ++ (wM G x (a 0) s2 r)) [4, 5, 6, 7, 8, 9, 10, 0, 1, 2, 3] rfl) (ci := 3) (q0 := 0) rfl rfl) rfl rfl hl.1 rfl (lv_room (Nat.le_of_ble_eq_true rfl)) dX4_glassTold_41 ⟨Nat.le_of_ble_eq_true rfl, Nat.le_of_ble_eq_true rfl⟩) ?_
  refine gh_is (f := upd (upd (upd (fun _ => 0) 0 (r 5 k)) 1 (r 6 k)) 2 (t 6 k)) (ws' := (wM G x (a 0) s2 r) ++ (wT G a (x 0) t) ++ ([(q_1, .inl (G.2.1, 8, .inl (upd (upd (upd (upd (fun _ => 0) 0 (r 5 k)) 1 (r 6 k)) 2 (t 6 k)) 3 (gm_tn r t k))))])) hx hb hK hP hD hS 11 0 rfl rfl 3 (rfl) (by decide) (by decide) dX4_glassTold_44 rfl (fun H locs hP hD hS => ?_)
  refine lv_dup hx hb dX4_glassTold_45 rfl ?_
  refine lv_iconst (v := 4) hx hb dX4_glassTold_46 (by decide) ?_
  refine lv_aload_n hx hb dX4_glassTold_47 rfl (lv_at hl 0 rfl) ?_
  refine va_get (D := G.1) (ci := 4) (v := .ref (a 0)) (C := RX4) (T := TX4) (N := 9) hx hb hts (fun w9 h9 => List.mem_cons_of_mem _ (List.mem_append_left _ (List.mem_append_right _ h9))) hown hK hP 0 rfl rfl 7 (by decide) (hts (.fieldLink RX4 28 "GlassHarpModel" "s" "LGlassHarpModel$State;") (List.mem_of_getElem? (i := 4) rfl)) (fun _ h9 => h9) rfl dX4_glassTold_48 ?_
  refine va_getN (D := G.1) (ci := 3) (v := .ref (a 7)) (C := RX3) (T := TX3) (N := 12) hx hb hts (fun w9 h9 => List.mem_cons_of_mem _ (List.mem_append_right _ h9)) hown hK hP 4 rfl rfl 7 (by decide) (va_Nw.use rfl (hE.2.2 (RX4, 59, "GlassHarpModel$State", "broken", "[I", RX4) (List.mem_of_getElem? (i := 29) rfl))) (fun _ h9 => h9) rfl dX4_glassTold_51 ?_
  refine lv_iload_n hx hb dX4_glassTold_54 rfl (lv_at hl 1 rfl) ?_
  refine gh_ia (f := t 7) hx hb hK hP 8 0 rfl rfl k (rfl) (Nat.lt_of_lt_of_le hk hn16) (by decide) dX4_glassTold_55 ?_
  refine gh_is (f := upd (upd (upd (upd (fun _ => 0) 0 (r 5 k)) 1 (r 6 k)) 2 (t 6 k)) 3 (gm_tn r t k)) (ws' := (wM G x (a 0) s2 r) ++ (wT G a (x 0) t) ++ ([(q_1, .inl (G.2.1, 8, .inl (upd (upd (upd (upd (upd (fun _ => 0) 0 (r 5 k)) 1 (r 6 k)) 2 (t 6 k)) 3 (gm_tn r t k)) 4 (t 7 k))))])) hx hb hK hP hD hS 11 0 rfl rfl 4 (rfl) (by decide) (by decide) dX4_glassTold_56 rfl (fun H locs hP hD hS => ?_)
  refine lv_dup hx hb dX4_glassTold_57 rfl ?_
  refine lv_iconst (v := 5) hx hb dX4_glassTold_58 (by decide) ?_
  refine lv_aload_n hx hb dX4_glassTold_59 rfl (lv_at hl 0 rfl) ?_
  refine va_get (D := G.1) (ci := 4) (v := .ref (a 0)) (C := RX4) (T := TX4) (N := 9) hx hb hts (fun w9 h9 => List.mem_cons_of_mem _ (List.mem_append_left _ (List.mem_append_right _ h9))) hown hK hP 0 rfl rfl 7 (by decide) (hts (.fieldLink RX4 28 "GlassHarpModel" "s" "LGlassHarpModel$State;") (List.mem_of_getElem? (i := 4) rfl)) (fun _ h9 => h9) rfl dX4_glassTold_60 ?_
  refine va_getN (D := G.1) (ci := 3) (v := .ref (a 8)) (C := RX3) (T := TX3) (N := 12) hx hb hts (fun w9 h9 => List.mem_cons_of_mem _ (List.mem_append_right _ h9)) hown hK hP 4 rfl rfl 8 (by decide) (va_Nw.use rfl (hE.2.2 (RX4, 72, "GlassHarpModel$State", "ring", "[I", RX4) (List.mem_of_getElem? (i := 30) rfl))) (fun _ h9 => h9) rfl dX4_glassTold_63 ?_
  refine lv_iload_n hx hb dX4_glassTold_66 rfl (lv_at hl 1 rfl) ?_
  refine gh_ia (f := t 8) hx hb hK hP 9 0 rfl rfl k (rfl) (Nat.lt_of_lt_of_le hk hn16) (by decide) dX4_glassTold_67 ?_
  refine gh_is (f := upd (upd (upd (upd (upd (fun _ => 0) 0 (r 5 k)) 1 (r 6 k)) 2 (t 6 k)) 3 (gm_tn r t k)) 4 (t 7 k)) (ws' := (wM G x (a 0) s2 r) ++ (wT G a (x 0) t) ++ ([(q_1, .inl (G.2.1, 8, .inl (upd (upd (upd (upd (upd (upd (fun _ => 0) 0 (r 5 k)) 1 (r 6 k)) 2 (t 6 k)) 3 (gm_tn r t k)) 4 (t 7 k)) 5 (t 8 k))))])) hx hb hK hP hD hS 11 0 rfl rfl 5 (rfl) (by decide) (by decide) dX4_glassTold_68 rfl (fun H locs hP hD hS => ?_)
  refine lv_dup hx hb dX4_glassTold_69 rfl ?_
  refine lv_bipush (v := 6) hx hb dX4_glassTold_70 (by decide) ?_
  refine lv_aload_n hx hb dX4_glassTold_72 rfl (lv_at hl 0 rfl) ?_
  refine va_get (D := G.1) (ci := 4) (v := .ref (a 0)) (C := RX4) (T := TX4) (N := 9) hx hb hts (fun w9 h9 => List.mem_cons_of_mem _ (List.mem_append_left _ (List.mem_append_right _ h9))) hown hK hP 0 rfl rfl 7 (by decide) (hts (.fieldLink RX4 28 "GlassHarpModel" "s" "LGlassHarpModel$State;") (List.mem_of_getElem? (i := 4) rfl)) (fun _ h9 => h9) rfl dX4_glassTold_73 ?_
  refine va_getN (D := G.1) (ci := 3) (v := .ref (a 9)) (C := RX3) (T := TX3) (N := 12) hx hb hts (fun w9 h9 => List.mem_cons_of_mem _ (List.mem_append_right _ h9)) hown hK hP 4 rfl rfl 9 (by decide) (va_Nw.use rfl (hE.2.2 (RX4, 75, "GlassHarpModel$State", "times", "[I", RX4) (List.mem_of_getElem? (i := 31) rfl))) (fun _ h9 => h9) rfl dX4_glassTold_76 ?_
  refine lv_iload_n hx hb dX4_glassTold_79 rfl (lv_at hl 1 rfl) ?_
  refine gh_ia (f := t 9) hx hb hK hP 10 0 rfl rfl k (rfl) (Nat.lt_of_lt_of_le hk hn16) (by decide) dX4_glassTold_80 ?_
  refine gh_is (f := upd (upd (upd (upd (upd (upd (fun _ => 0) 0 (r 5 k)) 1 (r 6 k)) 2 (t 6 k)) 3 (gm_tn r t k)) 4 (t 7 k)) 5 (t 8 k)) (ws' := (wM G x (a 0) s2 r) ++ (wT G a (x 0) t) ++ ([(q_1, .inl (G.2.1, 8, .inl (upd (upd (upd (upd (upd (upd (upd (fun _ => 0) 0 (r 5 k)) 1 (r 6 k)) 2 (t 6 k)) 3 (gm_tn r t k)) 4 (t 7 k)) 5 (t 8 k)) 6 (t 9 k))))])) hx hb hK hP hD hS 11 0 rfl rfl 6 (rfl) (by decide) (by decide) dX4_glassTold_81 rfl (fun H locs hP hD hS => ?_)
  refine lv_dup hx hb dX4_glassTold_82 rfl ?_
  refine lv_bipush (v := 7) hx hb dX4_glassTold_83 (by decide) ?_
  refine lv_aload_n hx hb dX4_glassTold_85 rfl (lv_at hl 0 rfl) ?_
  refine lv_iload_n hx hb dX4_glassTold_86 rfl (lv_at hl 1 rfl) ?_
  refine gh_ci (va_runV (As := [.int (nI k)]) (rest := [.int 7, .ref q_1, .ref q_1]) ⟨hx, hb, hml, hown, hts⟩ (c_X4_against l G x r a t s2 n k (hn) (hn16) (hsz) (hk)) (cwV 1 hts gX4_glassTold_X4_against rfl rfl rfl ⟨rfl, hdS_X4_against⟩ ⟨Nat.le_of_ble_eq_true rfl, Nat.le_of_ble_eq_true rfl⟩) (gh_rV hE (hP.sub (ws' := (wM G x (a 0) s2 r) ++ (wT G a (x 0) t)) [0, 1, 2, 3, 4, 5, 6, 7, 8, 9, 10] rfl) (ci := 4) (q0 := 0) rfl rfl) rfl rfl hl.1 rfl (lv_room (Nat.le_of_ble_eq_true rfl)) dX4_glassTold_87 ⟨Nat.le_of_ble_eq_true rfl, Nat.le_of_ble_eq_true rfl⟩) ?_
  refine gh_is (f := upd (upd (upd (upd (upd (upd (upd (fun _ => 0) 0 (r 5 k)) 1 (r 6 k)) 2 (t 6 k)) 3 (gm_tn r t k)) 4 (t 7 k)) 5 (t 8 k)) 6 (t 9 k)) (ws' := (wM G x (a 0) s2 r) ++ (wT G a (x 0) t) ++ ([(q_1, .inl (G.2.1, 8, .inl (upd (upd (upd (upd (upd (upd (upd (upd (fun _ => 0) 0 (r 5 k)) 1 (r 6 k)) 2 (t 6 k)) 3 (gm_tn r t k)) 4 (t 7 k)) 5 (t 8 k)) 6 (t 9 k)) 7 (gm_an r t k n))))])) hx hb hK hP hD hS 11 0 rfl rfl 7 (rfl) (by decide) (by decide) dX4_glassTold_90 rfl (fun H locs hP hD hS => ?_)
  refine lv_astore_n (lv' := [(3, .ref q_1), (0, .ref (x 0)), (1, .int (nI k)), (2, .int (nI w))]) hx hb dX4_glassTold_91 rfl hl (by decide) rfl (fun ls hl => ?_)
  refine lv_aload_n hx hb dX4_glassTold_92 rfl (lv_at hl 0 rfl) ?_
  refine lv_iload_n hx hb dX4_glassTold_93 rfl (lv_at hl 3 rfl) ?_
  refine gh_ia (f := upd (upd (upd (upd (upd (upd (upd (upd (fun _ => 0) 0 (r 5 k)) 1 (r 6 k)) 2 (t 6 k)) 3 (gm_tn r t k)) 4 (t 7 k)) 5 (t 8 k)) 6 (t 9 k)) 7 (gm_an r t k n)) hx hb hK hP 11 0 rfl rfl w (rfl) (hw) (by decide) dX4_glassTold_94 ?_
  have hP := hP.sub (ws' := (wM G x (a 0) s2 r) ++ (wT G a (x 0) t)) [0, 1, 2, 3, 4, 5, 6, 7, 8, 9, 10] rfl
  have hP9 := hP
  exact W.iret (v := (upd (upd (upd (upd (upd (upd (upd (upd (fun _ => 0) 0 (r 5 k)) 1 (r 6 k)) 2 (t 6 k)) 3 (gm_tn r t k)) 4 (t 7 k)) 5 (t 8 k)) 6 (t 9 k)) 7 (gm_an r t k n)) w) hx hb hr (fun t9 ht hW => ⟨⟨(upd (upd (upd (upd (upd (upd (upd (upd (fun _ => 0) 0 (r 5 k)) 1 (r 6 k)) 2 (t 6 k)) 3 (gm_tn r t k)) 4 (t 7 k)) 5 (t 8 k)) 6 (t 9 k)) 7 (gm_an r t k n)) w, (), rfl, by first | (simp only [gm_gl, ↓reduceIte, if_true, if_false]; done) | (simp only [gm_gl, ↓reduceIte, if_true, if_false]; rfl) | (simp [gm_gl, ↓reduceIte, if_true, if_false]; done), gh_hp hP9 ht⟩, hS.F ht⟩) hS.2.2 dX4_glassTold_95
set_option maxHeartbeats 4000000 in
set_option maxRecDepth 100000 in
theorem c_X4_glass (l : Launch) (G : gh_G) (sz : Nat) (x : Nat → Nat) (r : gh_B) (a : Nat → Nat) (t : gh_B) (s2 : Nat) (n : Nat) (y : Int32) (z : Int32) (hn : r 4 0 = nI n) (hn16 : n ≤ 16) (hsz : ∀ j : Nat, j < n → ¬ 4 * r 6 j = 0) : Met l yX4_glass wsX4_glass ({ frames := 5, cells := 1, slots := 8, locals := 111 } : Room) (gh_w G [.ref (x 0), .int y, .int z] ((wM G x (a 0) s2 r) ++ (wT G a (x 0) t)) sz) (va_Qi (fun (r9 : Int32) (_ : Unit) => r9 = gm_k2 0 (gm_gl (gm_z r) t n y.toNatClampNeg z.toNatClampNeg) (gh_iw y 0 (nI n - 1)) (gh_iw z 0 7)) (fun _ t9 => va_P G.1 vwCl ((wM G x (a 0) s2 (gm_k2 (gm_no r 1) (gm_z r) (gh_iw y 0 (nI n - 1)) (gh_iw z 0 7))) ++ (wT G a (x 0) t)) t9.heap) (va_A ((wM G x (a 0) s2 r) ++ (wT G a (x 0) t)) sz)) 1 8 (va_A ((wM G x (a 0) s2 r) ++ (wT G a (x 0) t)) sz) := by
  refine Met.ofW (cc := cX4_glass) (maxL := 3) (ret := (some .int)) (by decide) rfl ?_
  intro p e s m args below meth c s₁ B hml hv
  obtain ⟨rfl, hsz, hP, hE, hD0⟩ := hv
  have hx := B.exec
  have hb := B.bytes
  have hr := B.returns
  have hts := atoms_spec (ws := wsX4_glass) B.pre
  have hown : s.vm.findClass RX4 = some m.cls := findClass_of_methodNamed B.named
  have hlocks := B.notSynchronized
  have hK := hE.1
  subst hsz
  have hD := hD0.self (sz := s.heap.size)
  generalize hAe : va_A ((wM G x (a 0) s2 r) ++ (wT G a (x 0) t)) s.heap.size = A at hD ⊢
  have hA : ∀ q : Nat, s.heap.size ≤ q → A q := fun q h => by rw [← hAe]; exact Or.inr h
  have hS : va_S A s.heap s.heap [] := va_S.rf
  have hl := lv_entry ([.ref (x 0), .int y, .int z]) (n := 3) (Nat.le_of_ble_eq_true rfl)
  rw [lg_entry_eq]
  generalize (lg_sl ([.ref (x 0), .int y, .int z]) ++ List.replicate (3 - (lg_sl ([.ref (x 0), .int y, .int z])).length) Slot.unset).toArray = ls at hl ⊢
  have hl : lv_has ls 3 [(0, .ref (x 0)), (1, .int y), (2, .int z)] := hl
  refine lv_aload_n hx hb dX4_glass_0 rfl (lv_at hl 0 rfl) ?_
  refine lv_iconst (v := 0) hx hb dX4_glass_1 (by decide) ?_
  refine va_put (D := G.1) (ci := 4) (v := .int 0) (ty := .int) (C := RX4) (T := TX4) (N := 9) hx hb hts (fun w9 h9 => List.mem_cons_of_mem _ (List.mem_append_left _ (List.mem_append_right _ h9))) tyX4 tyX4_ok nmX4 hown hK hP hD hS 0 rfl rfl 0 (by decide) (hts (.fieldLink RX4 35 "GlassHarpModel" "thrown" "I") (List.mem_of_getElem? (i := 1) rfl)) (fun _ h9 => h9) rfl (tyX4_ok 0 (by decide)) rfl rfl (Nat.le_of_ble_eq_true rfl) dX4_glass_2 (fun H locs hP hD hS => ?_)
  have hP : va_P G.1 vwCl ((wM G x (a 0) s2 (gh_st r 0 (fun _ => 0))) ++ (wT G a (x 0) t)) H := hP
  have hD : va_D A ((wM G x (a 0) s2 (gh_st r 0 (fun _ => 0))) ++ (wT G a (x 0) t)) := hD
  refine lv_aload_n hx hb dX4_glass_5 rfl (lv_at hl 0 rfl) ?_
  refine lv_iload_n hx hb dX4_glass_6 rfl (lv_at hl 1 rfl) ?_
  refine gh_ci (va_runV (As := [.int y]) (rest := []) ⟨hx, hb, hml, hown, hts⟩ (c_X4_isGlass l G x (gh_st r 0 (fun _ => 0)) a t s2 n y (hn)) (cwV 1 hts gX4_glass_X4_isGlass rfl rfl rfl ⟨rfl, hdS_X4_isGlass⟩ ⟨Nat.le_of_ble_eq_true rfl, Nat.le_of_ble_eq_true rfl⟩) (gh_rV hE (hP.sub (ws' := wM G x (a 0) s2 (gh_st r 0 (fun _ => 0))) [0, 1, 2, 3] rfl) (ci := 4) (q0 := 0) rfl rfl) rfl rfl hl.1 rfl (lv_room (Nat.le_of_ble_eq_true rfl)) dX4_glass_7 ⟨Nat.le_of_ble_eq_true rfl, Nat.le_of_ble_eq_true rfl⟩) ?_
  refine lv_if_eq (tgt := 32) hx hb dX4_glass_10 (by decide) (fun c_1 => ?_) (fun c_1 => ?_)
  · skip
    refine lv_aload_n hx hb dX4_glass_32 rfl (lv_at hl 0 rfl) ?_
    refine lv_iconst (v := 1) hx hb dX4_glass_33 (by decide) ?_
    refine gh_cw (wr := wT G a (x 0) t) (ws' := (wM G x (a 0) s2 (gh_st (gh_st r 0 (fun _ => 0)) 0 (fun _ => 1))) ++ (wT G a (x 0) t)) (va_runV (As := [.int 1]) (rest := []) ⟨hx, hb, hml, hown, hts⟩ (c_X4_no l G H.size x (gh_st r 0 (fun _ => 0)) a t s2 1) (cwV 1 hts gX4_glass_X4_no rfl rfl rfl ⟨rfl, hdS_X4_no⟩ ⟨Nat.le_of_ble_eq_true rfl, Nat.le_of_ble_eq_true rfl⟩) (gh_wV hE (hP.sub (ws' := wM G x (a 0) s2 (gh_st r 0 (fun _ => 0))) [0, 1, 2, 3] rfl) (hD.sub (ws' := wM G x (a 0) s2 (gh_st r 0 (fun _ => 0))) [0, 1, 2, 3] (by decide) rfl) (ci := 4) (q0 := 0) rfl rfl) rfl rfl hl.1 rfl (lv_room (Nat.le_of_ble_eq_true rfl)) dX4_glass_34 ⟨Nat.le_of_ble_eq_true rfl, Nat.le_of_ble_eq_true rfl⟩) hP hD hS hA [0, 1, 2, 3] [4, 5, 6, 7, 8, 9, 10] [7, 8, 9, 10, 0, 1, 2, 3, 4, 5, 6] rfl rfl (by decide) (by decide) (by decide) [x 0, x 3, x 5, x 6] [x 0, x 3, x 5, x 6, a 0, a 4, a 5, a 6, a 7, a 8, a 9] rfl rfl rfl rfl rfl (fun H locs hP hD hS => ?_)
    refine W.widen (k := 1) (n := 8) (by omega) (by omega) ?_
    have hP9 : va_P G.1 vwCl ((wM G x (a 0) s2 (gm_k2 (gm_no r 1) (gm_z r) (gh_iw y 0 (nI n - 1)) (gh_iw z 0 7))) ++ (wT G a (x 0) t)) H := by
      have e9 : gh_st (gh_st r 0 (fun _ => 0)) 0 (fun _ => 1) = gm_k2 (gm_no r 1) (gm_z r) (gh_iw y 0 (nI n - 1)) (gh_iw z 0 7) := by first | (simp only [gm_k2, gm_no, gm_z, c_1, ↓reduceIte, if_true, if_false]; done) | (simp only [gm_k2, gm_no, gm_z]; simp only [c_1, ↓reduceIte, if_true, if_false]; done) | (simp [gm_k2, gm_no, gm_z, c_1, ↓reduceIte, if_true, if_false]; done)
      rw [← e9]
      exact hP
    exact W.iret (v := 0) hx hb hr (fun t9 ht hW => ⟨⟨0, (), rfl, by first | (simp only [gm_k2, gm_no, gm_z, c_1, ↓reduceIte, if_true, if_false]; done) | (simp only [gm_k2, gm_no, gm_z]; simp only [c_1, ↓reduceIte, if_true, if_false]; done) | (simp [gm_k2, gm_no, gm_z, c_1, ↓reduceIte, if_true, if_false]; done), gh_hp hP9 ht⟩, hS.F ht⟩) hS.2.2 dX4_glass_37
  · skip
    obtain ⟨k, hk, ek⟩ := gm_ig c_1 (Nat.lt_of_le_of_lt hn16 (by decide))
    have ekc : y.toNatClampNeg = k := by rw [ek, nI_clamp (Nat.lt_trans hk (Nat.lt_of_le_of_lt hn16 (by decide)))]
    refine lv_iload_n hx hb dX4_glass_13 rfl (lv_at hl 2 rfl) ?_
    refine lv_iconst (v := 0) hx hb dX4_glass_14 (by decide) ?_
    refine lv_bipush (v := 7) hx hb dX4_glass_15 (by decide) ?_
    refine gh_ci (va_runS (As := [.int z, .int 0, .int 7]) (rest := []) ⟨hx, hb, hml, hown, hts⟩ (c_X4_isIn l G z 0 7) (va_cwS 3 hts gX4_glass_X4_isIn rfl rfl rfl hdS_X4_isIn ⟨Nat.le_of_ble_eq_true rfl, Nat.le_of_ble_eq_true rfl⟩) (gh_rS hE (fun k q h => by simp at h)) rfl rfl hl.1 rfl (lv_room (Nat.le_of_ble_eq_true rfl)) dX4_glass_17 ⟨Nat.le_of_ble_eq_true rfl, Nat.le_of_ble_eq_true rfl⟩) ?_
    refine lv_if_eq (tgt := 32) hx hb dX4_glass_20 (by decide) (fun c_2 => ?_) (fun c_2 => ?_)
    · skip
      refine lv_aload_n hx hb dX4_glass_32 rfl (lv_at hl 0 rfl) ?_
      refine lv_iconst (v := 1) hx hb dX4_glass_33 (by decide) ?_
      refine gh_cw (wr := wT G a (x 0) t) (ws' := (wM G x (a 0) s2 (gh_st (gh_st r 0 (fun _ => 0)) 0 (fun _ => 1))) ++ (wT G a (x 0) t)) (va_runV (As := [.int 1]) (rest := []) ⟨hx, hb, hml, hown, hts⟩ (c_X4_no l G H.size x (gh_st r 0 (fun _ => 0)) a t s2 1) (cwV 1 hts gX4_glass_X4_no rfl rfl rfl ⟨rfl, hdS_X4_no⟩ ⟨Nat.le_of_ble_eq_true rfl, Nat.le_of_ble_eq_true rfl⟩) (gh_wV hE (hP.sub (ws' := wM G x (a 0) s2 (gh_st r 0 (fun _ => 0))) [0, 1, 2, 3] rfl) (hD.sub (ws' := wM G x (a 0) s2 (gh_st r 0 (fun _ => 0))) [0, 1, 2, 3] (by decide) rfl) (ci := 4) (q0 := 0) rfl rfl) rfl rfl hl.1 rfl (lv_room (Nat.le_of_ble_eq_true rfl)) dX4_glass_34 ⟨Nat.le_of_ble_eq_true rfl, Nat.le_of_ble_eq_true rfl⟩) hP hD hS hA [0, 1, 2, 3] [4, 5, 6, 7, 8, 9, 10] [7, 8, 9, 10, 0, 1, 2, 3, 4, 5, 6] rfl rfl (by decide) (by decide) (by decide) [x 0, x 3, x 5, x 6] [x 0, x 3, x 5, x 6, a 0, a 4, a 5, a 6, a 7, a 8, a 9] rfl rfl rfl rfl rfl (fun H locs hP hD hS => ?_)
      refine W.widen (k := 1) (n := 8) (by omega) (by omega) ?_
      have hP9 : va_P G.1 vwCl ((wM G x (a 0) s2 (gm_k2 (gm_no r 1) (gm_z r) (gh_iw y 0 (nI n - 1)) (gh_iw z 0 7))) ++ (wT G a (x 0) t)) H := by
        have e9 : gh_st (gh_st r 0 (fun _ => 0)) 0 (fun _ => 1) = gm_k2 (gm_no r 1) (gm_z r) (gh_iw y 0 (nI n - 1)) (gh_iw z 0 7) := by first | (simp only [gm_k2, gm_no, gm_z, c_1, ekc, c_2, ↓reduceIte, if_true, if_false]; done) | (simp only [gm_k2, gm_no, gm_z]; simp only [c_1, ekc, c_2, ↓reduceIte, if_true, if_false]; done) | (simp [gm_k2, gm_no, gm_z, c_1, ekc, c_2, ↓reduceIte, if_true, if_false]; done)
        rw [← e9]
        exact hP
      exact W.iret (v := 0) hx hb hr (fun t9 ht hW => ⟨⟨0, (), rfl, by first | (simp only [gm_k2, gm_no, gm_z, c_1, ekc, c_2, ↓reduceIte, if_true, if_false]; done) | (simp only [gm_k2, gm_no, gm_z]; simp only [c_1, ekc, c_2, ↓reduceIte, if_true, if_false]; done) | (simp [gm_k2, gm_no, gm_z, c_1, ekc, c_2, ↓reduceIte, if_true, if_false]; done), gh_hp hP9 ht⟩, hS.F ht⟩) hS.2.2 dX4_glass_37
    · skip
      obtain ⟨w, hw, ew⟩ := gm_i8 (k := 8) c_2 (by decide) (by decide) (by decide)
      have ewc : z.toNatClampNeg = w := by rw [ew, nI_clamp (Nat.lt_trans hw (by decide))]
      refine lv_aload_n hx hb dX4_glass_23 rfl (lv_at hl 0 rfl) ?_
      refine lv_iload_n hx hb dX4_glass_24 rfl (lv_at hl 1 rfl) ?_
      refine gh_vv (y := nI k) (ek) ?_
      refine lv_iload_n hx hb dX4_glass_25 rfl (lv_at hl 2 rfl) ?_
      refine gh_vv (y := nI w) (ew) ?_
      refine gh_cw (wr := []) (ws' := (wM G x (a 0) s2 (gh_st r 0 (fun _ => 0))) ++ (wT G a (x 0) t)) (va_runV (As := [.int (nI k), .int (nI w)]) (rest := []) ⟨hx, hb, hml, hown, hts⟩ (c_X4_glassTold l G H.size x (gh_st r 0 (fun _ => 0)) a t s2 n k w (hn) (hn16) (hsz) (hk) (hw)) (cwV 2 hts gX4_glass_X4_glassTold rfl rfl rfl ⟨rfl, hdS_X4_glassTold⟩ ⟨Nat.le_of_ble_eq_true rfl, Nat.le_of_ble_eq_true rfl⟩) (gh_wV hE hP hD (ci := 4) (q0 := 0) rfl rfl) rfl rfl hl.1 rfl (lv_room (Nat.le_of_ble_eq_true rfl)) dX4_glass_26 ⟨Nat.le_of_ble_eq_true rfl, Nat.le_of_ble_eq_true rfl⟩) hP hD hS hA [0, 1, 2, 3, 4, 5, 6, 7, 8, 9, 10] [] [0, 1, 2, 3, 4, 5, 6, 7, 8, 9, 10] rfl rfl (by decide) (by decide) (by decide) [x 0, x 3, x 5, x 6, a 0, a 4, a 5, a 6, a 7, a 8, a 9] [x 0, x 3, x 5, x 6, a 0, a 4, a 5, a 6, a 7, a 8, a 9] rfl rfl rfl rfl rfl (fun H locs hP hD hS => ?_)
      refine lv_goto (tgt := 37) hx hb dX4_glass_29 (by decide) ?_
      have hP9 : va_P G.1 vwCl ((wM G x (a 0) s2 (gm_k2 (gm_no r 1) (gm_z r) (gh_iw y 0 (nI n - 1)) (gh_iw z 0 7))) ++ (wT G a (x 0) t)) H := by
        have e9 : (gh_st r 0 (fun _ => 0)) = gm_k2 (gm_no r 1) (gm_z r) (gh_iw y 0 (nI n - 1)) (gh_iw z 0 7) := by first | (simp only [gm_k2, gm_no, gm_z, c_1, ekc, c_2, ewc, ↓reduceIte, if_true, if_false]; done) | (simp only [gm_k2, gm_no, gm_z]; simp only [c_1, ekc, c_2, ewc, ↓reduceIte, if_true, if_false]; done) | (simp [gm_k2, gm_no, gm_z, c_1, ekc, c_2, ewc, ↓reduceIte, if_true, if_false]; done)
        rw [← e9]
        exact hP
      exact W.iret (v := gm_gl (gh_st r 0 (fun _ => 0)) t n k w) hx hb hr (fun t9 ht hW => ⟨⟨gm_gl (gh_st r 0 (fun _ => 0)) t n k w, (), rfl, by first | (simp only [gm_k2, gm_no, gm_z, c_1, ekc, c_2, ewc, ↓reduceIte, if_true, if_false]; done) | (simp only [gm_k2, gm_no, gm_z]; simp only [c_1, ekc, c_2, ewc, ↓reduceIte, if_true, if_false]; done) | (simp [gm_k2, gm_no, gm_z, c_1, ekc, c_2, ewc, ↓reduceIte, if_true, if_false]; done), gh_hp hP9 ht⟩, hS.F ht⟩) hS.2.2 dX4_glass_37
set_option maxHeartbeats 4000000 in
set_option maxRecDepth 100000 in
theorem c_X4_rowTold (l : Launch) (G : gh_G) (x : Nat → Nat) (r : gh_B) (a : Nat → Nat) (t : gh_B) (s2 : Nat) (n : Nat) (y : Int32) (z : Int32) (hn : r 4 0 = nI n) (hn16 : n ≤ 16) (hy : vp_in y 4) : Met l yX4_rowTold wsX4_rowTold ({ frames := 0, cells := 0, slots := 0, locals := 0 } : Room) (gh_r G [.ref (x 0), .int y, .int z] ((wM G x (a 0) s2 r) ++ (wT G a (x 0) t))) (vp_Si (fun r9 => r9 = gm_rt r t n y z)) 0 0 (fun _ => False) := by
  refine Met.ofW (cc := cX4_rowTold) (maxL := 5) (ret := (some .int)) (by decide) rfl ?_
  intro p e s m args below meth c s₁ B hml hv
  obtain ⟨rfl, hP, hE⟩ := hv
  have hx := B.exec
  have hb := B.bytes
  have hr := B.returns
  have hts := atoms_spec (ws := wsX4_rowTold) B.pre
  have hown : s.vm.findClass RX4 = some m.cls := findClass_of_methodNamed B.named
  have hlocks := B.notSynchronized
  have hK := hE.1
  have hl := lv_entry ([.ref (x 0), .int y, .int z]) (n := 5) (Nat.le_of_ble_eq_true rfl)
  rw [lg_entry_eq]
  generalize (lg_sl ([.ref (x 0), .int y, .int z]) ++ List.replicate (5 - (lg_sl ([.ref (x 0), .int y, .int z])).length) Slot.unset).toArray = ls at hl ⊢
  have hl : lv_has ls 5 [(0, .ref (x 0)), (1, .int y), (2, .int z)] := hl
  refine lv_iconst (v := 0) hx hb dX4_rowTold_0 (by decide) ?_
  refine lv_istore_n (lv' := [(3, .int 0), (0, .ref (x 0)), (1, .int y), (2, .int z)]) hx hb dX4_rowTold_1 rfl hl (by decide) rfl (fun ls hl => ?_)
  refine lv_iconst (v := 0) hx hb dX4_rowTold_2 (by decide) ?_
  refine lv_istore (lv' := [(4, .int 0), (3, .int 0), (0, .ref (x 0)), (1, .int y), (2, .int z)]) hx hb dX4_rowTold_3 hl (by decide) rfl (fun ls hl => ?_)
  have J5 : ∀ (x3 : Int32), (x3 = gm_rs (r 5) y 0) → ∀ (ls : Array Slot), lv_has ls 5 [(0, .ref (x 0)), (1, .int y), (2, .int z), (3, .int x3), (4, .int (nI 0))] → W p l e (headSpec wsX4_rowTold ({ frames := 0, cells := 0, slots := 0, locals := 0 } : Room)).room s m ([.ref (x 0), .int y, .int z] : List Value).toArray below meth c s.heap [] 0 0 (MQ below (vp_Si (fun r9 => r9 = gm_rt r t n y z)) ([.ref (x 0), .int y, .int z] : List Value).toArray s 0 0 (fun _ => False)) (F0 m 5 ls []) := by
    refine gh_loop (n := n) (i0 := 0) (Nat.zero_le _) (P := fun i => ∀ (x3 : Int32), (x3 = gm_rs (r 5) y i) → ∀ (ls : Array Slot), lv_has ls 5 [(0, .ref (x 0)), (1, .int y), (2, .int z), (3, .int x3), (4, .int (nI i))] → W p l e (headSpec wsX4_rowTold ({ frames := 0, cells := 0, slots := 0, locals := 0 } : Room)).room s m ([.ref (x 0), .int y, .int z] : List Value).toArray below meth c s.heap [] 0 0 (MQ below (vp_Si (fun r9 => r9 = gm_rt r t n y z)) ([.ref (x 0), .int y, .int z] : List Value).toArray s 0 0 (fun _ => False)) (F0 m 5 ls [])) ?_ ?_
    · skip
      intro x3 e3 ls hl
      subst e3
      refine lv_iload hx hb dX4_rowTold_5 (lv_at hl 4 rfl) ?_
      refine lv_aload_n hx hb dX4_rowTold_7 rfl (lv_at hl 0 rfl) ?_
      refine va_get (D := G.1) (ci := 4) (v := .int (r 4 0)) (C := RX4) (T := TX4) (N := 9) hx hb hts (fun w9 h9 => List.mem_cons_of_mem _ (List.mem_append_left _ (List.mem_append_right _ h9))) hown hK hP 0 rfl rfl 4 (by decide) (hts (.fieldLink RX4 38 "GlassHarpModel" "glasses" "I") (List.mem_of_getElem? (i := 1) rfl)) (fun _ h9 => h9) rfl dX4_rowTold_8 ?_
      refine gh_vv (y := nI n) (hn) ?_
      refine lv_icmp_ge (tgt := 39) hx hb dX4_rowTold_11 (by decide) (fun c_1 => ?_) (fun c_1 => absurd (nI_le (Nat.le_refl _) (Nat.lt_of_le_of_lt hn16 (by decide))) c_1)
      refine lv_iload_n hx hb dX4_rowTold_39 rfl (lv_at hl 2 rfl) ?_
      refine lv_if_ne (tgt := 55) hx hb dX4_rowTold_40 (by decide) (fun c_2 => ?_) (fun c_2 => ?_)
      · skip
        refine lv_iload_n hx hb dX4_rowTold_55 rfl (lv_at hl 2 rfl) ?_
        refine lv_iconst (v := 1) hx hb dX4_rowTold_56 (by decide) ?_
        refine lv_icmp_ne (tgt := 72) hx hb dX4_rowTold_57 (by decide) (fun c_3 => ?_) (fun c_3 => ?_)
        · skip
          refine lv_iload_n hx hb dX4_rowTold_72 rfl (lv_at hl 3 rfl) ?_
          exact W.iret (v := gm_rs (r 5) y n) hx hb hr (fun t9 ht hW => ⟨gm_rs (r 5) y n, rfl, by first | (simp only [gm_rs, gm_rt, c_1, c_2, c_3, ↓reduceIte, if_true, if_false]; done) | (simp only [gm_rs, gm_rt]; simp only [c_1, c_2, c_3, ↓reduceIte, if_true, if_false]; done) | (simp [gm_rs, gm_rt, c_1, c_2, c_3, ↓reduceIte, if_true, if_false]; done), ht⟩) (fun q hq => absurd hq List.not_mem_nil) dX4_rowTold_73
        · skip
          refine lv_aload_n hx hb dX4_rowTold_60 rfl (lv_at hl 0 rfl) ?_
          refine va_get (D := G.1) (ci := 4) (v := .ref (a 0)) (C := RX4) (T := TX4) (N := 9) hx hb hts (fun w9 h9 => List.mem_cons_of_mem _ (List.mem_append_left _ (List.mem_append_right _ h9))) hown hK hP 0 rfl rfl 7 (by decide) (hts (.fieldLink RX4 28 "GlassHarpModel" "s" "LGlassHarpModel$State;") (List.mem_of_getElem? (i := 3) rfl)) (fun _ h9 => h9) rfl dX4_rowTold_61 ?_
          refine va_getN (D := G.1) (ci := 3) (v := .ref (a 5)) (C := RX3) (T := TX3) (N := 12) hx hb hts (fun w9 h9 => List.mem_cons_of_mem _ (List.mem_append_right _ h9)) hown hK hP 4 rfl rfl 5 (by decide) (va_Nw.use rfl (hE.2.2 (RX4, 65, "GlassHarpModel$State", "pump", "[I", RX4) (List.mem_of_getElem? (i := 27) rfl))) (fun _ h9 => h9) rfl dX4_rowTold_64 ?_
          refine lv_iload_n hx hb dX4_rowTold_67 rfl (lv_at hl 1 rfl) ?_
          refine va_iald (f := t 5) hx hb hK hP 6 0 rfl rfl (hy) dX4_rowTold_68 ?_
          refine lv_goto (tgt := 73) hx hb dX4_rowTold_69 (by decide) ?_
          exact W.iret (v := t 5 y.toNatClampNeg) hx hb hr (fun t9 ht hW => ⟨t 5 y.toNatClampNeg, rfl, by first | (simp only [gm_rs, gm_rt, c_1, c_2, c_3, ↓reduceIte, if_true, if_false]; done) | (simp only [gm_rs, gm_rt]; simp only [c_1, c_2, c_3, ↓reduceIte, if_true, if_false]; done) | (simp [gm_rs, gm_rt, c_1, c_2, c_3, ↓reduceIte, if_true, if_false]; done), ht⟩) (fun q hq => absurd hq List.not_mem_nil) dX4_rowTold_73
      · skip
        refine lv_aload_n hx hb dX4_rowTold_43 rfl (lv_at hl 0 rfl) ?_
        refine va_get (D := G.1) (ci := 4) (v := .ref (a 0)) (C := RX4) (T := TX4) (N := 9) hx hb hts (fun w9 h9 => List.mem_cons_of_mem _ (List.mem_append_left _ (List.mem_append_right _ h9))) hown hK hP 0 rfl rfl 7 (by decide) (hts (.fieldLink RX4 28 "GlassHarpModel" "s" "LGlassHarpModel$State;") (List.mem_of_getElem? (i := 3) rfl)) (fun _ h9 => h9) rfl dX4_rowTold_44 ?_
        refine va_getN (D := G.1) (ci := 3) (v := .ref (a 4)) (C := RX3) (T := TX3) (N := 12) hx hb hts (fun w9 h9 => List.mem_cons_of_mem _ (List.mem_append_right _ h9)) hown hK hP 4 rfl rfl 4 (by decide) (va_Nw.use rfl (hE.2.2 (RX4, 85, "GlassHarpModel$State", "air", "[I", RX4) (List.mem_of_getElem? (i := 26) rfl))) (fun _ h9 => h9) rfl dX4_rowTold_47 ?_
        refine lv_iload_n hx hb dX4_rowTold_50 rfl (lv_at hl 1 rfl) ?_
        refine va_iald (f := t 4) hx hb hK hP 5 0 rfl rfl (hy) dX4_rowTold_51 ?_
        refine lv_goto (tgt := 73) hx hb dX4_rowTold_52 (by decide) ?_
        exact W.iret (v := t 4 y.toNatClampNeg) hx hb hr (fun t9 ht hW => ⟨t 4 y.toNatClampNeg, rfl, by first | (simp only [gm_rs, gm_rt, c_1, c_2, ↓reduceIte, if_true, if_false]; done) | (simp only [gm_rs, gm_rt]; simp only [c_1, c_2, ↓reduceIte, if_true, if_false]; done) | (simp [gm_rs, gm_rt, c_1, c_2, ↓reduceIte, if_true, if_false]; done), ht⟩) (fun q hq => absurd hq List.not_mem_nil) dX4_rowTold_73
    · intro i hi_lo hi ih
      intro x3 e3 ls hl
      subst e3
      refine lv_iload hx hb dX4_rowTold_5 (lv_at hl 4 rfl) ?_
      refine lv_aload_n hx hb dX4_rowTold_7 rfl (lv_at hl 0 rfl) ?_
      refine va_get (D := G.1) (ci := 4) (v := .int (r 4 0)) (C := RX4) (T := TX4) (N := 9) hx hb hts (fun w9 h9 => List.mem_cons_of_mem _ (List.mem_append_left _ (List.mem_append_right _ h9))) hown hK hP 0 rfl rfl 4 (by decide) (hts (.fieldLink RX4 38 "GlassHarpModel" "glasses" "I") (List.mem_of_getElem? (i := 1) rfl)) (fun _ h9 => h9) rfl dX4_rowTold_8 ?_
      refine gh_vv (y := nI n) (hn) ?_
      refine lv_icmp_ge (tgt := 39) hx hb dX4_rowTold_11 (by decide) (fun c_4 => absurd c_4 (nI_ge hi (Nat.lt_of_le_of_lt hn16 (by decide)))) (fun c_4 => ?_)
      refine lv_iload_n hx hb dX4_rowTold_14 rfl (lv_at hl 3 rfl) ?_
      refine lv_aload_n hx hb dX4_rowTold_15 rfl (lv_at hl 0 rfl) ?_
      refine va_get (D := G.1) (ci := 4) (v := .ref (x 5)) (C := RX4) (T := TX4) (N := 9) hx hb hts (fun w9 h9 => List.mem_cons_of_mem _ (List.mem_append_left _ (List.mem_append_right _ h9))) hown hK hP 0 rfl rfl 5 (by decide) (hts (.fieldLink RX4 17 "GlassHarpModel" "row" "[I") (List.mem_of_getElem? (i := 2) rfl)) (fun _ h9 => h9) rfl dX4_rowTold_16 ?_
      refine lv_iload hx hb dX4_rowTold_19 (lv_at hl 4 rfl) ?_
      refine gh_ia (f := r 5) hx hb hK hP 2 0 rfl rfl i (rfl) (Nat.lt_of_lt_of_le hi hn16) (by decide) dX4_rowTold_21 ?_
      refine lv_iload_n hx hb dX4_rowTold_22 rfl (lv_at hl 1 rfl) ?_
      refine lv_icmp_ne (tgt := 30) hx hb dX4_rowTold_23 (by decide) (fun c_5 => ?_) (fun c_5 => ?_)
      · skip
        refine lv_iconst (v := 0) hx hb dX4_rowTold_30 (by decide) ?_
        refine lv_iadd hx hb dX4_rowTold_31 ?_
        refine lv_istore_n (lv' := [(3, .int ((gm_rs (r 5) y i) + 0)), (0, .ref (x 0)), (1, .int y), (2, .int z), (4, .int (nI i))]) hx hb dX4_rowTold_32 rfl hl (by decide) rfl (fun ls hl => ?_)
        refine lv_iinc (v := nI (i + 1)) (lv' := [(4, .int (nI (i + 1))), (3, .int ((gm_rs (r 5) y i) + 0)), (0, .ref (x 0)), (1, .int y), (2, .int z)]) hx hb dX4_rowTold_33 hl (k := 4) rfl (nI_1 i) (by decide) rfl (fun ls hl => ?_)
        refine lv_goto (tgt := 5) hx hb dX4_rowTold_36 (by decide) ?_
        exact ih ((gm_rs (r 5) y i) + 0) (by first | (simp only [gm_rs, c_4, c_5, ↓reduceIte, if_true, if_false]; done) | (simp only [gm_rs]; simp only [c_4, c_5, ↓reduceIte, if_true, if_false]; done) | (simp [gm_rs, c_4, c_5, ↓reduceIte, if_true, if_false]; done)) _ (lv_sub hl [2, 3, 4, 1, 0] rfl)
      · skip
        refine lv_iconst (v := 1) hx hb dX4_rowTold_26 (by decide) ?_
        refine lv_goto (tgt := 31) hx hb dX4_rowTold_27 (by decide) ?_
        refine lv_iadd hx hb dX4_rowTold_31 ?_
        refine lv_istore_n (lv' := [(3, .int ((gm_rs (r 5) y i) + 1)), (0, .ref (x 0)), (1, .int y), (2, .int z), (4, .int (nI i))]) hx hb dX4_rowTold_32 rfl hl (by decide) rfl (fun ls hl => ?_)
        refine lv_iinc (v := nI (i + 1)) (lv' := [(4, .int (nI (i + 1))), (3, .int ((gm_rs (r 5) y i) + 1)), (0, .ref (x 0)), (1, .int y), (2, .int z)]) hx hb dX4_rowTold_33 hl (k := 4) rfl (nI_1 i) (by decide) rfl (fun ls hl => ?_)
        refine lv_goto (tgt := 5) hx hb dX4_rowTold_36 (by decide) ?_
        exact ih ((gm_rs (r 5) y i) + 1) (by first | (simp only [gm_rs, c_4, c_5, ↓reduceIte, if_true, if_false]; done) | (simp only [gm_rs]; simp only [c_4, c_5, ↓reduceIte, if_true, if_false]; done) | (simp [gm_rs, c_4, c_5, ↓reduceIte, if_true, if_false]; done)) _ (lv_sub hl [2, 3, 4, 1, 0] rfl)
  exact J5 0 (by first | (simp only [gm_rs, ↓reduceIte, if_true, if_false]; done) | (simp only [gm_rs, ↓reduceIte, if_true, if_false]; rfl) | (simp [gm_rs, ↓reduceIte, if_true, if_false]; done)) _ (lv_sub hl [2, 3, 4, 1, 0] rfl)
set_option maxHeartbeats 4000000 in
set_option maxRecDepth 100000 in
theorem c_X4_row (l : Launch) (G : gh_G) (sz : Nat) (x : Nat → Nat) (r : gh_B) (a : Nat → Nat) (t : gh_B) (s2 : Nat) (n : Nat) (y : Int32) (z : Int32) (hn : r 4 0 = nI n) (hn16 : n ≤ 16) : Met l yX4_row wsX4_row ({ frames := 2, cells := 0, slots := 0, locals := 42 } : Room) (gh_w G [.ref (x 0), .int y, .int z] ((wM G x (a 0) s2 r) ++ (wT G a (x 0) t)) sz) (va_Qi (fun (r9 : Int32) (_ : Unit) => r9 = gm_k2 0 (gm_rt (gm_z r) t n y z) (gh_iw y 0 3) (gh_iw z 0 2)) (fun _ t9 => va_P G.1 vwCl ((wM G x (a 0) s2 (gm_k2 (gm_no r 1) (gm_z r) (gh_iw y 0 3) (gh_iw z 0 2))) ++ (wT G a (x 0) t)) t9.heap) (va_A ((wM G x (a 0) s2 r) ++ (wT G a (x 0) t)) sz)) 0 0 (va_A ((wM G x (a 0) s2 r) ++ (wT G a (x 0) t)) sz) := by
  refine Met.ofW (cc := cX4_row) (maxL := 3) (ret := (some .int)) (by decide) rfl ?_
  intro p e s m args below meth c s₁ B hml hv
  obtain ⟨rfl, hsz, hP, hE, hD0⟩ := hv
  have hx := B.exec
  have hb := B.bytes
  have hr := B.returns
  have hts := atoms_spec (ws := wsX4_row) B.pre
  have hown : s.vm.findClass RX4 = some m.cls := findClass_of_methodNamed B.named
  have hlocks := B.notSynchronized
  have hK := hE.1
  subst hsz
  have hD := hD0.self (sz := s.heap.size)
  generalize hAe : va_A ((wM G x (a 0) s2 r) ++ (wT G a (x 0) t)) s.heap.size = A at hD ⊢
  have hA : ∀ q : Nat, s.heap.size ≤ q → A q := fun q h => by rw [← hAe]; exact Or.inr h
  have hS : va_S A s.heap s.heap [] := va_S.rf
  have hl := lv_entry ([.ref (x 0), .int y, .int z]) (n := 3) (Nat.le_of_ble_eq_true rfl)
  rw [lg_entry_eq]
  generalize (lg_sl ([.ref (x 0), .int y, .int z]) ++ List.replicate (3 - (lg_sl ([.ref (x 0), .int y, .int z])).length) Slot.unset).toArray = ls at hl ⊢
  have hl : lv_has ls 3 [(0, .ref (x 0)), (1, .int y), (2, .int z)] := hl
  refine lv_aload_n hx hb dX4_row_0 rfl (lv_at hl 0 rfl) ?_
  refine lv_iconst (v := 0) hx hb dX4_row_1 (by decide) ?_
  refine va_put (D := G.1) (ci := 4) (v := .int 0) (ty := .int) (C := RX4) (T := TX4) (N := 9) hx hb hts (fun w9 h9 => List.mem_cons_of_mem _ (List.mem_append_left _ (List.mem_append_right _ h9))) tyX4 tyX4_ok nmX4 hown hK hP hD hS 0 rfl rfl 0 (by decide) (hts (.fieldLink RX4 35 "GlassHarpModel" "thrown" "I") (List.mem_of_getElem? (i := 1) rfl)) (fun _ h9 => h9) rfl (tyX4_ok 0 (by decide)) rfl rfl (Nat.le_of_ble_eq_true rfl) dX4_row_2 (fun H locs hP hD hS => ?_)
  have hP : va_P G.1 vwCl ((wM G x (a 0) s2 (gh_st r 0 (fun _ => 0))) ++ (wT G a (x 0) t)) H := hP
  have hD : va_D A ((wM G x (a 0) s2 (gh_st r 0 (fun _ => 0))) ++ (wT G a (x 0) t)) := hD
  refine lv_iload_n hx hb dX4_row_5 rfl (lv_at hl 1 rfl) ?_
  refine gh_ci (va_runS (As := [.int y]) (rest := []) ⟨hx, hb, hml, hown, hts⟩ (c_X4_isRow l G y) (va_cwS 1 hts gX4_row_X4_isRow rfl rfl rfl hdS_X4_isRow ⟨Nat.le_of_ble_eq_true rfl, Nat.le_of_ble_eq_true rfl⟩) (gh_rS hE (fun k q h => by simp at h)) rfl rfl hl.1 rfl (lv_room (Nat.le_of_ble_eq_true rfl)) dX4_row_6 ⟨Nat.le_of_ble_eq_true rfl, Nat.le_of_ble_eq_true rfl⟩) ?_
  refine lv_if_eq (tgt := 30) hx hb dX4_row_9 (by decide) (fun c_1 => ?_) (fun c_1 => ?_)
  · skip
    refine lv_aload_n hx hb dX4_row_30 rfl (lv_at hl 0 rfl) ?_
    refine lv_iconst (v := 1) hx hb dX4_row_31 (by decide) ?_
    refine gh_cw (wr := wT G a (x 0) t) (ws' := (wM G x (a 0) s2 (gh_st (gh_st r 0 (fun _ => 0)) 0 (fun _ => 1))) ++ (wT G a (x 0) t)) (va_runV (As := [.int 1]) (rest := []) ⟨hx, hb, hml, hown, hts⟩ (c_X4_no l G H.size x (gh_st r 0 (fun _ => 0)) a t s2 1) (cwV 1 hts gX4_row_X4_no rfl rfl rfl ⟨rfl, hdS_X4_no⟩ ⟨Nat.le_of_ble_eq_true rfl, Nat.le_of_ble_eq_true rfl⟩) (gh_wV hE (hP.sub (ws' := wM G x (a 0) s2 (gh_st r 0 (fun _ => 0))) [0, 1, 2, 3] rfl) (hD.sub (ws' := wM G x (a 0) s2 (gh_st r 0 (fun _ => 0))) [0, 1, 2, 3] (by decide) rfl) (ci := 4) (q0 := 0) rfl rfl) rfl rfl hl.1 rfl (lv_room (Nat.le_of_ble_eq_true rfl)) dX4_row_32 ⟨Nat.le_of_ble_eq_true rfl, Nat.le_of_ble_eq_true rfl⟩) hP hD hS hA [0, 1, 2, 3] [4, 5, 6, 7, 8, 9, 10] [7, 8, 9, 10, 0, 1, 2, 3, 4, 5, 6] rfl rfl (by decide) (by decide) (by decide) [x 0, x 3, x 5, x 6] [x 0, x 3, x 5, x 6, a 0, a 4, a 5, a 6, a 7, a 8, a 9] rfl rfl rfl rfl rfl (fun H locs hP hD hS => ?_)
    have hP9 : va_P G.1 vwCl ((wM G x (a 0) s2 (gm_k2 (gm_no r 1) (gm_z r) (gh_iw y 0 3) (gh_iw z 0 2))) ++ (wT G a (x 0) t)) H := by
      have e9 : gh_st (gh_st r 0 (fun _ => 0)) 0 (fun _ => 1) = gm_k2 (gm_no r 1) (gm_z r) (gh_iw y 0 3) (gh_iw z 0 2) := by first | (simp only [gm_k2, gm_no, gm_z, c_1, ↓reduceIte, if_true, if_false]; done) | (simp only [gm_k2, gm_no, gm_z]; simp only [c_1, ↓reduceIte, if_true, if_false]; done) | (simp [gm_k2, gm_no, gm_z, c_1, ↓reduceIte, if_true, if_false]; done)
      rw [← e9]
      exact hP
    exact W.iret (v := 0) hx hb hr (fun t9 ht hW => ⟨⟨0, (), rfl, by first | (simp only [gm_k2, gm_no, gm_z, c_1, ↓reduceIte, if_true, if_false]; done) | (simp only [gm_k2, gm_no, gm_z]; simp only [c_1, ↓reduceIte, if_true, if_false]; done) | (simp [gm_k2, gm_no, gm_z, c_1, ↓reduceIte, if_true, if_false]; done), gh_hp hP9 ht⟩, hS.F ht⟩) hS.2.2 dX4_row_35
  · skip
    refine lv_iload_n hx hb dX4_row_12 rfl (lv_at hl 2 rfl) ?_
    refine lv_iconst (v := 0) hx hb dX4_row_13 (by decide) ?_
    refine lv_iconst (v := 2) hx hb dX4_row_14 (by decide) ?_
    refine gh_ci (va_runS (As := [.int z, .int 0, .int 2]) (rest := []) ⟨hx, hb, hml, hown, hts⟩ (c_X4_isIn l G z 0 2) (va_cwS 3 hts gX4_row_X4_isIn rfl rfl rfl hdS_X4_isIn ⟨Nat.le_of_ble_eq_true rfl, Nat.le_of_ble_eq_true rfl⟩) (gh_rS hE (fun k q h => by simp at h)) rfl rfl hl.1 rfl (lv_room (Nat.le_of_ble_eq_true rfl)) dX4_row_15 ⟨Nat.le_of_ble_eq_true rfl, Nat.le_of_ble_eq_true rfl⟩) ?_
    refine lv_if_eq (tgt := 30) hx hb dX4_row_18 (by decide) (fun c_2 => ?_) (fun c_2 => ?_)
    · skip
      refine lv_aload_n hx hb dX4_row_30 rfl (lv_at hl 0 rfl) ?_
      refine lv_iconst (v := 1) hx hb dX4_row_31 (by decide) ?_
      refine gh_cw (wr := wT G a (x 0) t) (ws' := (wM G x (a 0) s2 (gh_st (gh_st r 0 (fun _ => 0)) 0 (fun _ => 1))) ++ (wT G a (x 0) t)) (va_runV (As := [.int 1]) (rest := []) ⟨hx, hb, hml, hown, hts⟩ (c_X4_no l G H.size x (gh_st r 0 (fun _ => 0)) a t s2 1) (cwV 1 hts gX4_row_X4_no rfl rfl rfl ⟨rfl, hdS_X4_no⟩ ⟨Nat.le_of_ble_eq_true rfl, Nat.le_of_ble_eq_true rfl⟩) (gh_wV hE (hP.sub (ws' := wM G x (a 0) s2 (gh_st r 0 (fun _ => 0))) [0, 1, 2, 3] rfl) (hD.sub (ws' := wM G x (a 0) s2 (gh_st r 0 (fun _ => 0))) [0, 1, 2, 3] (by decide) rfl) (ci := 4) (q0 := 0) rfl rfl) rfl rfl hl.1 rfl (lv_room (Nat.le_of_ble_eq_true rfl)) dX4_row_32 ⟨Nat.le_of_ble_eq_true rfl, Nat.le_of_ble_eq_true rfl⟩) hP hD hS hA [0, 1, 2, 3] [4, 5, 6, 7, 8, 9, 10] [7, 8, 9, 10, 0, 1, 2, 3, 4, 5, 6] rfl rfl (by decide) (by decide) (by decide) [x 0, x 3, x 5, x 6] [x 0, x 3, x 5, x 6, a 0, a 4, a 5, a 6, a 7, a 8, a 9] rfl rfl rfl rfl rfl (fun H locs hP hD hS => ?_)
      have hP9 : va_P G.1 vwCl ((wM G x (a 0) s2 (gm_k2 (gm_no r 1) (gm_z r) (gh_iw y 0 3) (gh_iw z 0 2))) ++ (wT G a (x 0) t)) H := by
        have e9 : gh_st (gh_st r 0 (fun _ => 0)) 0 (fun _ => 1) = gm_k2 (gm_no r 1) (gm_z r) (gh_iw y 0 3) (gh_iw z 0 2) := by first | (simp only [gm_k2, gm_no, gm_z, c_1, c_2, ↓reduceIte, if_true, if_false]; done) | (simp only [gm_k2, gm_no, gm_z]; simp only [c_1, c_2, ↓reduceIte, if_true, if_false]; done) | (simp [gm_k2, gm_no, gm_z, c_1, c_2, ↓reduceIte, if_true, if_false]; done)
        rw [← e9]
        exact hP
      exact W.iret (v := 0) hx hb hr (fun t9 ht hW => ⟨⟨0, (), rfl, by first | (simp only [gm_k2, gm_no, gm_z, c_1, c_2, ↓reduceIte, if_true, if_false]; done) | (simp only [gm_k2, gm_no, gm_z]; simp only [c_1, c_2, ↓reduceIte, if_true, if_false]; done) | (simp [gm_k2, gm_no, gm_z, c_1, c_2, ↓reduceIte, if_true, if_false]; done), gh_hp hP9 ht⟩, hS.F ht⟩) hS.2.2 dX4_row_35
    · skip
      refine lv_aload_n hx hb dX4_row_21 rfl (lv_at hl 0 rfl) ?_
      refine lv_iload_n hx hb dX4_row_22 rfl (lv_at hl 1 rfl) ?_
      refine lv_iload_n hx hb dX4_row_23 rfl (lv_at hl 2 rfl) ?_
      refine gh_ci (va_runV (As := [.int y, .int z]) (rest := []) ⟨hx, hb, hml, hown, hts⟩ (c_X4_rowTold l G x (gh_st r 0 (fun _ => 0)) a t s2 n y z (hn) (hn16) (gh_iw_in c_1)) (cwV 2 hts gX4_row_X4_rowTold rfl rfl rfl ⟨rfl, hdS_X4_rowTold⟩ ⟨Nat.le_of_ble_eq_true rfl, Nat.le_of_ble_eq_true rfl⟩) (gh_rV hE hP (ci := 4) (q0 := 0) rfl rfl) rfl rfl hl.1 rfl (lv_room (Nat.le_of_ble_eq_true rfl)) dX4_row_24 ⟨Nat.le_of_ble_eq_true rfl, Nat.le_of_ble_eq_true rfl⟩) ?_
      refine lv_goto (tgt := 35) hx hb dX4_row_27 (by decide) ?_
      have hP9 : va_P G.1 vwCl ((wM G x (a 0) s2 (gm_k2 (gm_no r 1) (gm_z r) (gh_iw y 0 3) (gh_iw z 0 2))) ++ (wT G a (x 0) t)) H := by
        have e9 : gh_st r 0 (fun _ => 0) = gm_k2 (gm_no r 1) (gm_z r) (gh_iw y 0 3) (gh_iw z 0 2) := by first | (simp only [gm_k2, gm_no, gm_z, c_1, c_2, ↓reduceIte, if_true, if_false]; done) | (simp only [gm_k2, gm_no, gm_z]; simp only [c_1, c_2, ↓reduceIte, if_true, if_false]; done) | (simp [gm_k2, gm_no, gm_z, c_1, c_2, ↓reduceIte, if_true, if_false]; done)
        rw [← e9]
        exact hP
      exact W.iret (v := gm_rt (gh_st r 0 (fun _ => 0)) t n y z) hx hb hr (fun t9 ht hW => ⟨⟨gm_rt (gh_st r 0 (fun _ => 0)) t n y z, (), rfl, by first | (simp only [gm_k2, gm_no, gm_z, c_1, c_2, ↓reduceIte, if_true, if_false]; done) | (simp only [gm_k2, gm_no, gm_z]; simp only [c_1, c_2, ↓reduceIte, if_true, if_false]; done) | (simp [gm_k2, gm_no, gm_z, c_1, c_2, ↓reduceIte, if_true, if_false]; done), gh_hp hP9 ht⟩, hS.F ht⟩) hS.2.2 dX4_row_35
set_option maxHeartbeats 4000000 in
set_option maxRecDepth 100000 in
theorem c_X4_setLength (l : Launch) (G : gh_G) (sz : Nat) (x : Nat → Nat) (r : gh_B) (a : Nat → Nat) (t : gh_B) (s2 : Nat) (y : Int32)  : Met l yX4_setLength wsX4_setLength ({ frames := 1, cells := 0, slots := 0, locals := 22 } : Room) (gh_w G [.ref (x 0), .int y] (wM G x (a 0) s2 r) sz) (va_Qi (fun (r9 : Int32) (_ : Unit) => r9 = gm_k1 0 (r 1 0) (gh_iw y 1 64)) (fun _ t9 => va_P G.1 vwCl (wM G x (a 0) s2 (gm_k1 (gm_no r 1) (gh_st (gm_z r) 1 (fun _ => y)) (gh_iw y 1 64))) t9.heap) (va_A (wM G x (a 0) s2 r) sz)) 0 0 (va_A (wM G x (a 0) s2 r) sz) := by
  refine Met.ofW (cc := cX4_setLength) (maxL := 3) (ret := (some .int)) (by decide) rfl ?_
  intro p e s m args below meth c s₁ B hml hv
  obtain ⟨rfl, hsz, hP, hE, hD0⟩ := hv
  have hx := B.exec
  have hb := B.bytes
  have hr := B.returns
  have hts := atoms_spec (ws := wsX4_setLength) B.pre
  have hown : s.vm.findClass RX4 = some m.cls := findClass_of_methodNamed B.named
  have hlocks := B.notSynchronized
  have hK := hE.1
  subst hsz
  have hD := hD0.self (sz := s.heap.size)
  generalize hAe : va_A (wM G x (a 0) s2 r) s.heap.size = A at hD ⊢
  have hA : ∀ q : Nat, s.heap.size ≤ q → A q := fun q h => by rw [← hAe]; exact Or.inr h
  have hS : va_S A s.heap s.heap [] := va_S.rf
  have hl := lv_entry ([.ref (x 0), .int y]) (n := 3) (Nat.le_of_ble_eq_true rfl)
  rw [lg_entry_eq]
  generalize (lg_sl ([.ref (x 0), .int y]) ++ List.replicate (3 - (lg_sl ([.ref (x 0), .int y])).length) Slot.unset).toArray = ls at hl ⊢
  have hl : lv_has ls 3 [(0, .ref (x 0)), (1, .int y)] := hl
  refine lv_aload_n hx hb dX4_setLength_0 rfl (lv_at hl 0 rfl) ?_
  refine lv_iconst (v := 0) hx hb dX4_setLength_1 (by decide) ?_
  refine va_put (D := G.1) (ci := 4) (v := .int 0) (ty := .int) (C := RX4) (T := TX4) (N := 9) hx hb hts (fun w9 h9 => List.mem_cons_of_mem _ (List.mem_append_right _ h9)) tyX4 tyX4_ok nmX4 hown hK hP hD hS 0 rfl rfl 0 (by decide) (hts (.fieldLink RX4 35 "GlassHarpModel" "thrown" "I") (List.mem_of_getElem? (i := 1) rfl)) (fun _ h9 => h9) rfl (tyX4_ok 0 (by decide)) rfl rfl (Nat.le_of_ble_eq_true rfl) dX4_setLength_2 (fun H locs hP hD hS => ?_)
  have hP : va_P G.1 vwCl (wM G x (a 0) s2 (gh_st r 0 (fun _ => 0))) H := hP
  have hD : va_D A (wM G x (a 0) s2 (gh_st r 0 (fun _ => 0))) := hD
  refine lv_iload_n hx hb dX4_setLength_5 rfl (lv_at hl 1 rfl) ?_
  refine lv_iconst (v := 1) hx hb dX4_setLength_6 (by decide) ?_
  refine lv_bipush (v := 64) hx hb dX4_setLength_7 (by decide) ?_
  refine gh_ci (va_runS (As := [.int y, .int 1, .int 64]) (rest := []) ⟨hx, hb, hml, hown, hts⟩ (c_X4_isIn l G y 1 64) (va_cwS 3 hts gX4_setLength_X4_isIn rfl rfl rfl hdS_X4_isIn ⟨Nat.le_of_ble_eq_true rfl, Nat.le_of_ble_eq_true rfl⟩) (gh_rS hE (fun k q h => by simp at h)) rfl rfl hl.1 rfl (lv_room (Nat.le_of_ble_eq_true rfl)) dX4_setLength_9 ⟨Nat.le_of_ble_eq_true rfl, Nat.le_of_ble_eq_true rfl⟩) ?_
  refine lv_if_ne (tgt := 21) hx hb dX4_setLength_12 (by decide) (fun c_1 => ?_) (fun c_1 => ?_)
  · skip
    refine lv_aload_n hx hb dX4_setLength_21 rfl (lv_at hl 0 rfl) ?_
    refine va_get (D := G.1) (ci := 4) (v := .int (r 1 0)) (C := RX4) (T := TX4) (N := 9) hx hb hts (fun w9 h9 => List.mem_cons_of_mem _ (List.mem_append_right _ h9)) hown hK hP 0 rfl rfl 1 (by decide) (hts (.fieldLink RX4 7 "GlassHarpModel" "length" "I") (List.mem_of_getElem? (i := 2) rfl)) (fun _ h9 => h9) rfl dX4_setLength_22 ?_
    refine lv_istore_n (lv' := [(2, .int (r 1 0)), (0, .ref (x 0)), (1, .int y)]) hx hb dX4_setLength_25 rfl hl (by decide) rfl (fun ls hl => ?_)
    refine lv_aload_n hx hb dX4_setLength_26 rfl (lv_at hl 1 rfl) ?_
    refine lv_iload_n hx hb dX4_setLength_27 rfl (lv_at hl 2 rfl) ?_
    refine va_put (D := G.1) (ci := 4) (v := .int y) (ty := .int) (C := RX4) (T := TX4) (N := 9) hx hb hts (fun w9 h9 => List.mem_cons_of_mem _ (List.mem_append_right _ h9)) tyX4 tyX4_ok nmX4 hown hK hP hD hS 0 rfl rfl 1 (by decide) (hts (.fieldLink RX4 7 "GlassHarpModel" "length" "I") (List.mem_of_getElem? (i := 2) rfl)) (fun _ h9 => h9) rfl (tyX4_ok 1 (by decide)) rfl rfl (Nat.le_of_ble_eq_true rfl) dX4_setLength_28 (fun H locs hP hD hS => ?_)
    have hP : va_P G.1 vwCl (wM G x (a 0) s2 (gh_st (gh_st r 0 (fun _ => 0)) 1 (fun _ => y))) H := hP
    have hD : va_D A (wM G x (a 0) s2 (gh_st (gh_st r 0 (fun _ => 0)) 1 (fun _ => y))) := hD
    refine lv_iload_n hx hb dX4_setLength_31 rfl (lv_at hl 0 rfl) ?_
    have hP9 : va_P G.1 vwCl (wM G x (a 0) s2 (gm_k1 (gm_no r 1) (gh_st (gm_z r) 1 (fun _ => y)) (gh_iw y 1 64))) H := by
      have e9 : gh_st (gh_st r 0 (fun _ => 0)) 1 (fun _ => y) = gm_k1 (gm_no r 1) (gh_st (gm_z r) 1 (fun _ => y)) (gh_iw y 1 64) := by first | (simp only [gm_k1, gm_no, gm_z, c_1, ↓reduceIte, if_true, if_false]; done) | (simp only [gm_k1, gm_no, gm_z]; simp only [c_1, ↓reduceIte, if_true, if_false]; done) | (simp [gm_k1, gm_no, gm_z, c_1, ↓reduceIte, if_true, if_false]; done)
      rw [← e9]
      exact hP
    exact W.iret (v := r 1 0) hx hb hr (fun t9 ht hW => ⟨⟨r 1 0, (), rfl, by first | (simp only [gm_k1, gm_no, gm_z, c_1, ↓reduceIte, if_true, if_false]; done) | (simp only [gm_k1, gm_no, gm_z]; simp only [c_1, ↓reduceIte, if_true, if_false]; done) | (simp [gm_k1, gm_no, gm_z, c_1, ↓reduceIte, if_true, if_false]; done), gh_hp hP9 ht⟩, hS.F ht⟩) hS.2.2 dX4_setLength_32
  · skip
    refine lv_aload_n hx hb dX4_setLength_15 rfl (lv_at hl 0 rfl) ?_
    refine lv_iconst (v := 1) hx hb dX4_setLength_16 (by decide) ?_
    refine gh_cw (wr := []) (ws' := wM G x (a 0) s2 (gh_st (gh_st r 0 (fun _ => 0)) 0 (fun _ => 1))) (va_runV (As := [.int 1]) (rest := []) ⟨hx, hb, hml, hown, hts⟩ (c_X4_no l G H.size x (gh_st r 0 (fun _ => 0)) a t s2 1) (cwV 1 hts gX4_setLength_X4_no rfl rfl rfl ⟨rfl, hdS_X4_no⟩ ⟨Nat.le_of_ble_eq_true rfl, Nat.le_of_ble_eq_true rfl⟩) (gh_wV hE hP hD (ci := 4) (q0 := 0) rfl rfl) rfl rfl hl.1 rfl (lv_room (Nat.le_of_ble_eq_true rfl)) dX4_setLength_17 ⟨Nat.le_of_ble_eq_true rfl, Nat.le_of_ble_eq_true rfl⟩) hP hD hS hA [0, 1, 2, 3] [] [0, 1, 2, 3] rfl rfl (by decide) (by decide) (by decide) [x 0, x 3, x 5, x 6] [x 0, x 3, x 5, x 6] rfl rfl rfl rfl rfl (fun H locs hP hD hS => ?_)
    have hP9 : va_P G.1 vwCl (wM G x (a 0) s2 (gm_k1 (gm_no r 1) (gh_st (gm_z r) 1 (fun _ => y)) (gh_iw y 1 64))) H := by
      have e9 : gh_st (gh_st r 0 (fun _ => 0)) 0 (fun _ => 1) = gm_k1 (gm_no r 1) (gh_st (gm_z r) 1 (fun _ => y)) (gh_iw y 1 64) := by first | (simp only [gm_k1, gm_no, gm_z, c_1, ↓reduceIte, if_true, if_false]; done) | (simp only [gm_k1, gm_no, gm_z]; simp only [c_1, ↓reduceIte, if_true, if_false]; done) | (simp [gm_k1, gm_no, gm_z, c_1, ↓reduceIte, if_true, if_false]; done)
      rw [← e9]
      exact hP
    exact W.iret (v := 0) hx hb hr (fun t9 ht hW => ⟨⟨0, (), rfl, by first | (simp only [gm_k1, gm_no, gm_z, c_1, ↓reduceIte, if_true, if_false]; done) | (simp only [gm_k1, gm_no, gm_z]; simp only [c_1, ↓reduceIte, if_true, if_false]; done) | (simp [gm_k1, gm_no, gm_z, c_1, ↓reduceIte, if_true, if_false]; done), gh_hp hP9 ht⟩, hS.F ht⟩) hS.2.2 dX4_setLength_20
set_option maxHeartbeats 4000000 in
set_option maxRecDepth 100000 in
theorem c_X4_note (l : Launch) (G : gh_G) (sz : Nat) (x : Nat → Nat) (r : gh_B) (a : Nat → Nat) (t : gh_B) (s2 : Nat) (nn : Nat) (y : Int32) (z : Int32) (v : Int32) (hz : r 2 0 = nI nn) (hz32 : nn ≤ 32) : Met l yX4_note wsX4_note ({ frames := 1, cells := 1, slots := 3, locals := 70 } : Room) (gh_w G [.ref (x 0), .int y, .int z, .int v] (wM G x (a 0) s2 r) sz) (va_Qi (fun (r9 : Int32) (_ : Unit) => r9 = gm_knote 0 0 (nI (nn + 1)) nn y z v) (fun _ t9 => va_P G.1 vwCl (wM G x (a 0) s2 (gm_knote (gm_no r 1) (gm_no r 2) (gm_nw r nn y z v) nn y z v)) t9.heap) (va_A (wM G x (a 0) s2 r) sz)) 1 3 (va_A (wM G x (a 0) s2 r) sz) := by
  refine Met.ofW (cc := cX4_note) (maxL := 5) (ret := (some .int)) (by decide) rfl ?_
  intro p e s m args below meth c s₁ B hml hv
  obtain ⟨rfl, hsz, hP, hE, hD0⟩ := hv
  have hx := B.exec
  have hb := B.bytes
  have hr := B.returns
  have hts := atoms_spec (ws := wsX4_note) B.pre
  have hown : s.vm.findClass RX4 = some m.cls := findClass_of_methodNamed B.named
  have hlocks := B.notSynchronized
  have hK := hE.1
  subst hsz
  have hD := hD0.self (sz := s.heap.size)
  generalize hAe : va_A (wM G x (a 0) s2 r) s.heap.size = A at hD ⊢
  have hA : ∀ q : Nat, s.heap.size ≤ q → A q := fun q h => by rw [← hAe]; exact Or.inr h
  have hS : va_S A s.heap s.heap [] := va_S.rf
  have hl := lv_entry ([.ref (x 0), .int y, .int z, .int v]) (n := 5) (Nat.le_of_ble_eq_true rfl)
  rw [lg_entry_eq]
  generalize (lg_sl ([.ref (x 0), .int y, .int z, .int v]) ++ List.replicate (5 - (lg_sl ([.ref (x 0), .int y, .int z, .int v])).length) Slot.unset).toArray = ls at hl ⊢
  have hl : lv_has ls 5 [(0, .ref (x 0)), (1, .int y), (2, .int z), (3, .int v)] := hl
  refine lv_aload_n hx hb dX4_note_0 rfl (lv_at hl 0 rfl) ?_
  refine lv_iconst (v := 0) hx hb dX4_note_1 (by decide) ?_
  refine va_put (D := G.1) (ci := 4) (v := .int 0) (ty := .int) (C := RX4) (T := TX4) (N := 9) hx hb hts (fun w9 h9 => List.mem_cons_of_mem _ (List.mem_append_right _ h9)) tyX4 tyX4_ok nmX4 hown hK hP hD hS 0 rfl rfl 0 (by decide) (hts (.fieldLink RX4 35 "GlassHarpModel" "thrown" "I") (List.mem_of_getElem? (i := 1) rfl)) (fun _ h9 => h9) rfl (tyX4_ok 0 (by decide)) rfl rfl (Nat.le_of_ble_eq_true rfl) dX4_note_2 (fun H locs hP hD hS => ?_)
  have hP : va_P G.1 vwCl (wM G x (a 0) s2 (gh_st r 0 (fun _ => 0))) H := hP
  have hD : va_D A (wM G x (a 0) s2 (gh_st r 0 (fun _ => 0))) := hD
  refine lv_iload_n hx hb dX4_note_5 rfl (lv_at hl 1 rfl) ?_
  refine lv_iconst (v := 0) hx hb dX4_note_6 (by decide) ?_
  refine lv_bipush (v := 63) hx hb dX4_note_7 (by decide) ?_
  refine gh_ci (va_runS (As := [.int y, .int 0, .int 63]) (rest := []) ⟨hx, hb, hml, hown, hts⟩ (c_X4_isIn l G y 0 63) (va_cwS 3 hts gX4_note_X4_isIn rfl rfl rfl hdS_X4_isIn ⟨Nat.le_of_ble_eq_true rfl, Nat.le_of_ble_eq_true rfl⟩) (gh_rS hE (fun k q h => by simp at h)) rfl rfl hl.1 rfl (lv_room (Nat.le_of_ble_eq_true rfl)) dX4_note_9 ⟨Nat.le_of_ble_eq_true rfl, Nat.le_of_ble_eq_true rfl⟩) ?_
  refine lv_if_eq (tgt := 35) hx hb dX4_note_12 (by decide) (fun c_1 => ?_) (fun c_1 => ?_)
  · skip
    refine lv_aload_n hx hb dX4_note_35 rfl (lv_at hl 0 rfl) ?_
    refine lv_iconst (v := 1) hx hb dX4_note_36 (by decide) ?_
    refine gh_cw (wr := []) (ws' := wM G x (a 0) s2 (gh_st (gh_st r 0 (fun _ => 0)) 0 (fun _ => 1))) (va_runV (As := [.int 1]) (rest := []) ⟨hx, hb, hml, hown, hts⟩ (c_X4_no l G H.size x (gh_st r 0 (fun _ => 0)) a t s2 1) (cwV 1 hts gX4_note_X4_no rfl rfl rfl ⟨rfl, hdS_X4_no⟩ ⟨Nat.le_of_ble_eq_true rfl, Nat.le_of_ble_eq_true rfl⟩) (gh_wV hE hP hD (ci := 4) (q0 := 0) rfl rfl) rfl rfl hl.1 rfl (lv_room (Nat.le_of_ble_eq_true rfl)) dX4_note_37 ⟨Nat.le_of_ble_eq_true rfl, Nat.le_of_ble_eq_true rfl⟩) hP hD hS hA [0, 1, 2, 3] [] [0, 1, 2, 3] rfl rfl (by decide) (by decide) (by decide) [x 0, x 3, x 5, x 6] [x 0, x 3, x 5, x 6] rfl rfl rfl rfl rfl (fun H locs hP hD hS => ?_)
    refine W.widen (k := 1) (n := 3) (by omega) (by omega) ?_
    have hP9 : va_P G.1 vwCl (wM G x (a 0) s2 (gm_knote (gm_no r 1) (gm_no r 2) (gm_nw r nn y z v) nn y z v)) H := by
      have e9 : gh_st (gh_st r 0 (fun _ => 0)) 0 (fun _ => 1) = gm_knote (gm_no r 1) (gm_no r 2) (gm_nw r nn y z v) nn y z v := by first | (simp only [gm_knote, gm_nw, gm_no, gm_z, c_1, ↓reduceIte, if_true, if_false]; done) | (simp only [gm_knote, gm_nw, gm_no, gm_z]; simp only [c_1, ↓reduceIte, if_true, if_false]; done) | (simp [gm_knote, gm_nw, gm_no, gm_z, c_1, ↓reduceIte, if_true, if_false]; done)
      rw [← e9]
      exact hP
    exact W.iret (v := 0) hx hb hr (fun t9 ht hW => ⟨⟨0, (), rfl, by first | (simp only [gm_knote, gm_nw, gm_no, gm_z, c_1, ↓reduceIte, if_true, if_false]; done) | (simp only [gm_knote, gm_nw, gm_no, gm_z]; simp only [c_1, ↓reduceIte, if_true, if_false]; done) | (simp [gm_knote, gm_nw, gm_no, gm_z, c_1, ↓reduceIte, if_true, if_false]; done), gh_hp hP9 ht⟩, hS.F ht⟩) hS.2.2 dX4_note_40
  · skip
    refine lv_iload_n hx hb dX4_note_15 rfl (lv_at hl 2 rfl) ?_
    refine lv_iconst (v := 0) hx hb dX4_note_16 (by decide) ?_
    refine lv_bipush (v := 120) hx hb dX4_note_17 (by decide) ?_
    refine gh_ci (va_runS (As := [.int z, .int 0, .int 120]) (rest := []) ⟨hx, hb, hml, hown, hts⟩ (c_X4_isIn l G z 0 120) (va_cwS 3 hts gX4_note_X4_isIn rfl rfl rfl hdS_X4_isIn ⟨Nat.le_of_ble_eq_true rfl, Nat.le_of_ble_eq_true rfl⟩) (gh_rS hE (fun k q h => by simp at h)) rfl rfl hl.1 rfl (lv_room (Nat.le_of_ble_eq_true rfl)) dX4_note_19 ⟨Nat.le_of_ble_eq_true rfl, Nat.le_of_ble_eq_true rfl⟩) ?_
    refine lv_if_eq (tgt := 35) hx hb dX4_note_22 (by decide) (fun c_2 => ?_) (fun c_2 => ?_)
    · skip
      refine lv_aload_n hx hb dX4_note_35 rfl (lv_at hl 0 rfl) ?_
      refine lv_iconst (v := 1) hx hb dX4_note_36 (by decide) ?_
      refine gh_cw (wr := []) (ws' := wM G x (a 0) s2 (gh_st (gh_st r 0 (fun _ => 0)) 0 (fun _ => 1))) (va_runV (As := [.int 1]) (rest := []) ⟨hx, hb, hml, hown, hts⟩ (c_X4_no l G H.size x (gh_st r 0 (fun _ => 0)) a t s2 1) (cwV 1 hts gX4_note_X4_no rfl rfl rfl ⟨rfl, hdS_X4_no⟩ ⟨Nat.le_of_ble_eq_true rfl, Nat.le_of_ble_eq_true rfl⟩) (gh_wV hE hP hD (ci := 4) (q0 := 0) rfl rfl) rfl rfl hl.1 rfl (lv_room (Nat.le_of_ble_eq_true rfl)) dX4_note_37 ⟨Nat.le_of_ble_eq_true rfl, Nat.le_of_ble_eq_true rfl⟩) hP hD hS hA [0, 1, 2, 3] [] [0, 1, 2, 3] rfl rfl (by decide) (by decide) (by decide) [x 0, x 3, x 5, x 6] [x 0, x 3, x 5, x 6] rfl rfl rfl rfl rfl (fun H locs hP hD hS => ?_)
      refine W.widen (k := 1) (n := 3) (by omega) (by omega) ?_
      have hP9 : va_P G.1 vwCl (wM G x (a 0) s2 (gm_knote (gm_no r 1) (gm_no r 2) (gm_nw r nn y z v) nn y z v)) H := by
        have e9 : gh_st (gh_st r 0 (fun _ => 0)) 0 (fun _ => 1) = gm_knote (gm_no r 1) (gm_no r 2) (gm_nw r nn y z v) nn y z v := by first | (simp only [gm_knote, gm_nw, gm_no, gm_z, c_1, c_2, ↓reduceIte, if_true, if_false]; done) | (simp only [gm_knote, gm_nw, gm_no, gm_z]; simp only [c_1, c_2, ↓reduceIte, if_true, if_false]; done) | (simp [gm_knote, gm_nw, gm_no, gm_z, c_1, c_2, ↓reduceIte, if_true, if_false]; done)
        rw [← e9]
        exact hP
      exact W.iret (v := 0) hx hb hr (fun t9 ht hW => ⟨⟨0, (), rfl, by first | (simp only [gm_knote, gm_nw, gm_no, gm_z, c_1, c_2, ↓reduceIte, if_true, if_false]; done) | (simp only [gm_knote, gm_nw, gm_no, gm_z]; simp only [c_1, c_2, ↓reduceIte, if_true, if_false]; done) | (simp [gm_knote, gm_nw, gm_no, gm_z, c_1, c_2, ↓reduceIte, if_true, if_false]; done), gh_hp hP9 ht⟩, hS.F ht⟩) hS.2.2 dX4_note_40
    · skip
      refine lv_iload_n hx hb dX4_note_25 rfl (lv_at hl 3 rfl) ?_
      refine lv_iconst (v := 1) hx hb dX4_note_26 (by decide) ?_
      refine lv_bipush (v := 9) hx hb dX4_note_27 (by decide) ?_
      refine gh_ci (va_runS (As := [.int v, .int 1, .int 9]) (rest := []) ⟨hx, hb, hml, hown, hts⟩ (c_X4_isIn l G v 1 9) (va_cwS 3 hts gX4_note_X4_isIn rfl rfl rfl hdS_X4_isIn ⟨Nat.le_of_ble_eq_true rfl, Nat.le_of_ble_eq_true rfl⟩) (gh_rS hE (fun k q h => by simp at h)) rfl rfl hl.1 rfl (lv_room (Nat.le_of_ble_eq_true rfl)) dX4_note_29 ⟨Nat.le_of_ble_eq_true rfl, Nat.le_of_ble_eq_true rfl⟩) ?_
      refine lv_if_ne (tgt := 41) hx hb dX4_note_32 (by decide) (fun c_3 => ?_) (fun c_3 => ?_)
      · skip
        refine lv_aload_n hx hb dX4_note_41 rfl (lv_at hl 0 rfl) ?_
        refine va_get (D := G.1) (ci := 4) (v := .int (r 2 0)) (C := RX4) (T := TX4) (N := 9) hx hb hts (fun w9 h9 => List.mem_cons_of_mem _ (List.mem_append_right _ h9)) hown hK hP 0 rfl rfl 2 (by decide) (hts (.fieldLink RX4 91 "GlassHarpModel" "notes" "I") (List.mem_of_getElem? (i := 2) rfl)) (fun _ h9 => h9) rfl dX4_note_42 ?_
        refine gh_vv (y := nI nn) (hz) ?_
        refine lv_bipush (v := 32) hx hb dX4_note_45 (by decide) ?_
        refine lv_icmp_ne (tgt := 56) hx hb dX4_note_47 (by decide) (fun c_4 => ?_) (fun c_4 => ?_)
        · skip
          have hnn : nn < 32 := Nat.lt_of_le_of_ne hz32 (fun e9 => c_4 (by rw [e9]; rfl))
          refine lv_iconst (v := 3) hx hb dX4_note_56 (by decide) ?_
          refine gh_na hx hb (hts (.arrayClass .int) (List.mem_of_getElem? (i := 3) rfl)) hK hP hD hS hA 3 (rfl) (by decide) (Nat.le_of_ble_eq_true rfl) (Nat.le_of_ble_eq_true rfl) dX4_note_57 (fun q_5 H hP hD hS => ?_)
          have hP : va_P G.1 vwCl ((wM G x (a 0) s2 (gh_st r 0 (fun _ => 0))) ++ ([(q_5, .inl (G.2.1, 3, .inl ((fun _ => 0))))])) H := hP
          have hD : va_D A ((wM G x (a 0) s2 (gh_st r 0 (fun _ => 0))) ++ ([(q_5, .inl (G.2.1, 3, .inl ((fun _ => 0))))])) := hD
          refine lv_dup hx hb dX4_note_59 rfl ?_
          refine lv_iconst (v := 0) hx hb dX4_note_60 (by decide) ?_
          refine lv_iload_n hx hb dX4_note_61 rfl (lv_at hl 1 rfl) ?_
          refine gh_is (f := (fun _ => 0)) (ws' := (wM G x (a 0) s2 (gh_st r 0 (fun _ => 0))) ++ ([(q_5, .inl (G.2.1, 3, .inl (upd (fun _ => 0) 0 y)))])) hx hb hK hP hD hS 4 0 rfl rfl 0 (rfl) (by decide) (by decide) dX4_note_62 rfl (fun H locs hP hD hS => ?_)
          refine lv_dup hx hb dX4_note_63 rfl ?_
          refine lv_iconst (v := 1) hx hb dX4_note_64 (by decide) ?_
          refine lv_iload_n hx hb dX4_note_65 rfl (lv_at hl 2 rfl) ?_
          refine gh_is (f := upd (fun _ => 0) 0 y) (ws' := (wM G x (a 0) s2 (gh_st r 0 (fun _ => 0))) ++ ([(q_5, .inl (G.2.1, 3, .inl (upd (upd (fun _ => 0) 0 y) 1 z)))])) hx hb hK hP hD hS 4 0 rfl rfl 1 (rfl) (by decide) (by decide) dX4_note_66 rfl (fun H locs hP hD hS => ?_)
          refine lv_dup hx hb dX4_note_67 rfl ?_
          refine lv_iconst (v := 2) hx hb dX4_note_68 (by decide) ?_
          refine lv_iload_n hx hb dX4_note_69 rfl (lv_at hl 3 rfl) ?_
          refine gh_is (f := upd (upd (fun _ => 0) 0 y) 1 z) (ws' := (wM G x (a 0) s2 (gh_st r 0 (fun _ => 0))) ++ ([(q_5, .inl (G.2.1, 3, .inl (upd (upd (upd (fun _ => 0) 0 y) 1 z) 2 v)))])) hx hb hK hP hD hS 4 0 rfl rfl 2 (rfl) (by decide) (by decide) dX4_note_70 rfl (fun H locs hP hD hS => ?_)
          refine lv_astore (lv' := [(4, .ref q_5), (0, .ref (x 0)), (1, .int y), (2, .int z), (3, .int v)]) hx hb dX4_note_71 hl (by decide) rfl (fun ls hl => ?_)
          refine lv_aload hx hb dX4_note_73 (lv_at hl 0 rfl) ?_
          refine lv_iconst (v := 0) hx hb dX4_note_75 (by decide) ?_
          refine lv_aload_n hx hb dX4_note_76 rfl (lv_at hl 1 rfl) ?_
          refine va_get (D := G.1) (ci := 4) (v := .ref (x 3)) (C := RX4) (T := TX4) (N := 9) hx hb hts (fun w9 h9 => List.mem_cons_of_mem _ (List.mem_append_right _ h9)) hown hK hP 0 rfl rfl 3 (by decide) (hts (.fieldLink RX4 13 "GlassHarpModel" "score" "[I") (List.mem_of_getElem? (i := 4) rfl)) (fun _ h9 => h9) rfl dX4_note_77 ?_
          refine lv_iconst (v := 3) hx hb dX4_note_80 (by decide) ?_
          refine lv_aload_n hx hb dX4_note_81 rfl (lv_at hl 1 rfl) ?_
          refine va_get (D := G.1) (ci := 4) (v := .int (r 2 0)) (C := RX4) (T := TX4) (N := 9) hx hb hts (fun w9 h9 => List.mem_cons_of_mem _ (List.mem_append_right _ h9)) hown hK hP 0 rfl rfl 2 (by decide) (hts (.fieldLink RX4 91 "GlassHarpModel" "notes" "I") (List.mem_of_getElem? (i := 2) rfl)) (fun _ h9 => h9) rfl dX4_note_82 ?_
          refine gh_vv (y := nI nn) (hz) ?_
          refine lv_imul hx hb dX4_note_85 ?_
          refine gh_vv (y := nI (3 * nn)) (pk_mul 3 nn) ?_
          refine lv_iconst (v := 3) hx hb dX4_note_86 (by decide) ?_
          refine gh_cp (f := upd (upd (upd (fun _ => 0) 0 y) 1 z) 2 v) (g := r 3) (ws' := (wM G x (a 0) s2 (gh_st (gh_st r 0 (fun _ => 0)) 3 (va_cpy (upd (upd (upd (fun _ => 0) 0 y) 1 z) 2 v) (r 3) 0 (3 * nn) 3))) ++ ([(q_5, .inl (G.2.1, 3, .inl (upd (upd (upd (fun _ => 0) 0 y) 1 z) 2 v)))])) hx hb (hml.trans hl.1.symm) hown (hts (.methodLink RX4 94 arraycopyName) (List.mem_of_getElem? (i := 5) rfl)) (hts (.native arraycopyName) (List.mem_of_getElem? (i := 6) rfl)) (hts (.static arraycopyName) (List.mem_of_getElem? (i := 7) rfl)) (hts (.initialized "java/lang/System") (List.mem_of_getElem? (i := 8) rfl)) hK hP hD hS 4 1 0 0 rfl rfl rfl rfl 0 rfl (3 * nn) rfl 3 rfl (by omega) (by omega) (by decide) (by decide) (Nat.le_of_ble_eq_true rfl) (Nat.le_of_ble_eq_true rfl) dX4_note_87 rfl (fun H locs hP hD hS => ?_)
          refine lv_aload_n hx hb dX4_note_90 rfl (lv_at hl 1 rfl) ?_
          refine lv_dup hx hb dX4_note_91 rfl ?_
          refine va_get (D := G.1) (ci := 4) (v := .int (r 2 0)) (C := RX4) (T := TX4) (N := 9) hx hb hts (fun w9 h9 => List.mem_cons_of_mem _ (List.mem_append_right _ h9)) hown hK hP 0 rfl rfl 2 (by decide) (hts (.fieldLink RX4 91 "GlassHarpModel" "notes" "I") (List.mem_of_getElem? (i := 2) rfl)) (fun _ h9 => h9) rfl dX4_note_92 ?_
          refine gh_vv (y := nI nn) (hz) ?_
          refine lv_iconst (v := 1) hx hb dX4_note_95 (by decide) ?_
          refine lv_iadd hx hb dX4_note_96 ?_
          refine gh_vv (y := nI (nn + 1)) (nI_1 nn) ?_
          refine va_put (D := G.1) (ci := 4) (v := .int (nI (nn + 1))) (ty := .int) (C := RX4) (T := TX4) (N := 9) hx hb hts (fun w9 h9 => List.mem_cons_of_mem _ (List.mem_append_right _ h9)) tyX4 tyX4_ok nmX4 hown hK hP hD hS 0 rfl rfl 2 (by decide) (hts (.fieldLink RX4 91 "GlassHarpModel" "notes" "I") (List.mem_of_getElem? (i := 2) rfl)) (fun _ h9 => h9) rfl (tyX4_ok 2 (by decide)) rfl rfl (Nat.le_of_ble_eq_true rfl) dX4_note_97 (fun H locs hP hD hS => ?_)
          have hP : va_P G.1 vwCl ((wM G x (a 0) s2 (gh_st (gh_st (gh_st r 0 (fun _ => 0)) 3 (va_cpy (upd (upd (upd (fun _ => 0) 0 y) 1 z) 2 v) (r 3) 0 (3 * nn) 3)) 2 (fun _ => nI (nn + 1)))) ++ ([(q_5, .inl (G.2.1, 3, .inl (upd (upd (upd (fun _ => 0) 0 y) 1 z) 2 v)))])) H := hP
          have hD : va_D A ((wM G x (a 0) s2 (gh_st (gh_st (gh_st r 0 (fun _ => 0)) 3 (va_cpy (upd (upd (upd (fun _ => 0) 0 y) 1 z) 2 v) (r 3) 0 (3 * nn) 3)) 2 (fun _ => nI (nn + 1)))) ++ ([(q_5, .inl (G.2.1, 3, .inl (upd (upd (upd (fun _ => 0) 0 y) 1 z) 2 v)))])) := hD
          refine lv_aload_n hx hb dX4_note_100 rfl (lv_at hl 1 rfl) ?_
          refine va_get (D := G.1) (ci := 4) (v := .int (nI (nn + 1))) (C := RX4) (T := TX4) (N := 9) hx hb hts (fun w9 h9 => List.mem_cons_of_mem _ (List.mem_append_right _ h9)) hown hK hP 0 rfl rfl 2 (by decide) (hts (.fieldLink RX4 91 "GlassHarpModel" "notes" "I") (List.mem_of_getElem? (i := 2) rfl)) (fun _ h9 => h9) rfl dX4_note_101 ?_
          have hP := hP.sub (ws' := wM G x (a 0) s2 (gh_st (gh_st (gh_st r 0 (fun _ => 0)) 3 (va_cpy (upd (upd (upd (fun _ => 0) 0 y) 1 z) 2 v) (r 3) 0 (3 * nn) 3)) 2 (fun _ => nI (nn + 1)))) [0, 1, 2, 3] rfl
          have hP9 : va_P G.1 vwCl (wM G x (a 0) s2 (gm_knote (gm_no r 1) (gm_no r 2) (gm_nw r nn y z v) nn y z v)) H := by
            have e9 : gh_st (gh_st (gh_st r 0 (fun _ => 0)) 3 (va_cpy (upd (upd (upd (fun _ => 0) 0 y) 1 z) 2 v) (r 3) 0 (3 * nn) 3)) 2 (fun _ => nI (nn + 1)) = gm_knote (gm_no r 1) (gm_no r 2) (gm_nw r nn y z v) nn y z v := by first | (simp only [gm_knote, gm_nw, gm_no, gm_z, c_1, c_2, c_3, c_4, ↓reduceIte, if_true, if_false]; done) | (simp only [gm_knote, gm_nw, gm_no, gm_z]; simp only [c_1, c_2, c_3, c_4, ↓reduceIte, if_true, if_false]; done) | (simp [gm_knote, gm_nw, gm_no, gm_z, c_1, c_2, c_3, c_4, ↓reduceIte, if_true, if_false]; done)
            rw [← e9]
            exact hP
          exact W.iret (v := nI (nn + 1)) hx hb hr (fun t9 ht hW => ⟨⟨nI (nn + 1), (), rfl, by first | (simp only [gm_knote, gm_nw, gm_no, gm_z, c_1, c_2, c_3, c_4, ↓reduceIte, if_true, if_false]; done) | (simp only [gm_knote, gm_nw, gm_no, gm_z]; simp only [c_1, c_2, c_3, c_4, ↓reduceIte, if_true, if_false]; done) | (simp [gm_knote, gm_nw, gm_no, gm_z, c_1, c_2, c_3, c_4, ↓reduceIte, if_true, if_false]; done), gh_hp hP9 ht⟩, hS.F ht⟩) hS.2.2 dX4_note_104
        · skip
          refine lv_aload_n hx hb dX4_note_50 rfl (lv_at hl 0 rfl) ?_
          refine lv_iconst (v := 2) hx hb dX4_note_51 (by decide) ?_
          refine gh_cw (wr := []) (ws' := wM G x (a 0) s2 (gh_st (gh_st r 0 (fun _ => 0)) 0 (fun _ => 2))) (va_runV (As := [.int 2]) (rest := []) ⟨hx, hb, hml, hown, hts⟩ (c_X4_no l G H.size x (gh_st r 0 (fun _ => 0)) a t s2 2) (cwV 1 hts gX4_note_X4_no rfl rfl rfl ⟨rfl, hdS_X4_no⟩ ⟨Nat.le_of_ble_eq_true rfl, Nat.le_of_ble_eq_true rfl⟩) (gh_wV hE hP hD (ci := 4) (q0 := 0) rfl rfl) rfl rfl hl.1 rfl (lv_room (Nat.le_of_ble_eq_true rfl)) dX4_note_52 ⟨Nat.le_of_ble_eq_true rfl, Nat.le_of_ble_eq_true rfl⟩) hP hD hS hA [0, 1, 2, 3] [] [0, 1, 2, 3] rfl rfl (by decide) (by decide) (by decide) [x 0, x 3, x 5, x 6] [x 0, x 3, x 5, x 6] rfl rfl rfl rfl rfl (fun H locs hP hD hS => ?_)
          refine W.widen (k := 1) (n := 3) (by omega) (by omega) ?_
          have hP9 : va_P G.1 vwCl (wM G x (a 0) s2 (gm_knote (gm_no r 1) (gm_no r 2) (gm_nw r nn y z v) nn y z v)) H := by
            have e9 : gh_st (gh_st r 0 (fun _ => 0)) 0 (fun _ => 2) = gm_knote (gm_no r 1) (gm_no r 2) (gm_nw r nn y z v) nn y z v := by first | (simp only [gm_knote, gm_nw, gm_no, gm_z, c_1, c_2, c_3, c_4, ↓reduceIte, if_true, if_false]; done) | (simp only [gm_knote, gm_nw, gm_no, gm_z]; simp only [c_1, c_2, c_3, c_4, ↓reduceIte, if_true, if_false]; done) | (simp [gm_knote, gm_nw, gm_no, gm_z, c_1, c_2, c_3, c_4, ↓reduceIte, if_true, if_false]; done)
            rw [← e9]
            exact hP
          exact W.iret (v := 0) hx hb hr (fun t9 ht hW => ⟨⟨0, (), rfl, by first | (simp only [gm_knote, gm_nw, gm_no, gm_z, c_1, c_2, c_3, c_4, ↓reduceIte, if_true, if_false]; done) | (simp only [gm_knote, gm_nw, gm_no, gm_z]; simp only [c_1, c_2, c_3, c_4, ↓reduceIte, if_true, if_false]; done) | (simp [gm_knote, gm_nw, gm_no, gm_z, c_1, c_2, c_3, c_4, ↓reduceIte, if_true, if_false]; done), gh_hp hP9 ht⟩, hS.F ht⟩) hS.2.2 dX4_note_55
      · skip
        refine lv_aload_n hx hb dX4_note_35 rfl (lv_at hl 0 rfl) ?_
        refine lv_iconst (v := 1) hx hb dX4_note_36 (by decide) ?_
        refine gh_cw (wr := []) (ws' := wM G x (a 0) s2 (gh_st (gh_st r 0 (fun _ => 0)) 0 (fun _ => 1))) (va_runV (As := [.int 1]) (rest := []) ⟨hx, hb, hml, hown, hts⟩ (c_X4_no l G H.size x (gh_st r 0 (fun _ => 0)) a t s2 1) (cwV 1 hts gX4_note_X4_no rfl rfl rfl ⟨rfl, hdS_X4_no⟩ ⟨Nat.le_of_ble_eq_true rfl, Nat.le_of_ble_eq_true rfl⟩) (gh_wV hE hP hD (ci := 4) (q0 := 0) rfl rfl) rfl rfl hl.1 rfl (lv_room (Nat.le_of_ble_eq_true rfl)) dX4_note_37 ⟨Nat.le_of_ble_eq_true rfl, Nat.le_of_ble_eq_true rfl⟩) hP hD hS hA [0, 1, 2, 3] [] [0, 1, 2, 3] rfl rfl (by decide) (by decide) (by decide) [x 0, x 3, x 5, x 6] [x 0, x 3, x 5, x 6] rfl rfl rfl rfl rfl (fun H locs hP hD hS => ?_)
        refine W.widen (k := 1) (n := 3) (by omega) (by omega) ?_
        have hP9 : va_P G.1 vwCl (wM G x (a 0) s2 (gm_knote (gm_no r 1) (gm_no r 2) (gm_nw r nn y z v) nn y z v)) H := by
          have e9 : gh_st (gh_st r 0 (fun _ => 0)) 0 (fun _ => 1) = gm_knote (gm_no r 1) (gm_no r 2) (gm_nw r nn y z v) nn y z v := by first | (simp only [gm_knote, gm_nw, gm_no, gm_z, c_1, c_2, c_3, ↓reduceIte, if_true, if_false]; done) | (simp only [gm_knote, gm_nw, gm_no, gm_z]; simp only [c_1, c_2, c_3, ↓reduceIte, if_true, if_false]; done) | (simp [gm_knote, gm_nw, gm_no, gm_z, c_1, c_2, c_3, ↓reduceIte, if_true, if_false]; done)
          rw [← e9]
          exact hP
        exact W.iret (v := 0) hx hb hr (fun t9 ht hW => ⟨⟨0, (), rfl, by first | (simp only [gm_knote, gm_nw, gm_no, gm_z, c_1, c_2, c_3, ↓reduceIte, if_true, if_false]; done) | (simp only [gm_knote, gm_nw, gm_no, gm_z]; simp only [c_1, c_2, c_3, ↓reduceIte, if_true, if_false]; done) | (simp [gm_knote, gm_nw, gm_no, gm_z, c_1, c_2, c_3, ↓reduceIte, if_true, if_false]; done), gh_hp hP9 ht⟩, hS.F ht⟩) hS.2.2 dX4_note_40
set_option maxHeartbeats 4000000 in
set_option maxRecDepth 100000 in
theorem c_X4_strike (l : Launch) (G : gh_G) (sz : Nat) (x : Nat → Nat) (r : gh_B) (a : Nat → Nat) (t : gh_B) (s2 : Nat) (nn : Nat) (y : Int32) (hz : r 2 0 = nI nn) (hz32 : nn ≤ 32) : Met l yX4_strike wsX4_strike ({ frames := 1, cells := 0, slots := 0, locals := 70 } : Room) (gh_w G [.ref (x 0), .int y] (wM G x (a 0) s2 r) sz) (va_Qi (fun (r9 : Int32) (_ : Unit) => r9 = gm_k1 0 (r 3 (3 * y.toNatClampNeg + 1)) (gh_iw y 0 (nI nn - 1))) (fun _ t9 => va_P G.1 vwCl (wM G x (a 0) s2 (gm_k1 (gm_no r 1) (gm_sk r nn y.toNatClampNeg) (gh_iw y 0 (nI nn - 1)))) t9.heap) (va_A (wM G x (a 0) s2 r) sz)) 0 0 (va_A (wM G x (a 0) s2 r) sz) := by
  refine Met.ofW (cc := cX4_strike) (maxL := 3) (ret := (some .int)) (by decide) rfl ?_
  intro p e s m args below meth c s₁ B hml hv
  obtain ⟨rfl, hsz, hP, hE, hD0⟩ := hv
  have hx := B.exec
  have hb := B.bytes
  have hr := B.returns
  have hts := atoms_spec (ws := wsX4_strike) B.pre
  have hown : s.vm.findClass RX4 = some m.cls := findClass_of_methodNamed B.named
  have hlocks := B.notSynchronized
  have hK := hE.1
  subst hsz
  have hD := hD0.self (sz := s.heap.size)
  generalize hAe : va_A (wM G x (a 0) s2 r) s.heap.size = A at hD ⊢
  have hA : ∀ q : Nat, s.heap.size ≤ q → A q := fun q h => by rw [← hAe]; exact Or.inr h
  have hS : va_S A s.heap s.heap [] := va_S.rf
  have hl := lv_entry ([.ref (x 0), .int y]) (n := 3) (Nat.le_of_ble_eq_true rfl)
  rw [lg_entry_eq]
  generalize (lg_sl ([.ref (x 0), .int y]) ++ List.replicate (3 - (lg_sl ([.ref (x 0), .int y])).length) Slot.unset).toArray = ls at hl ⊢
  have hl : lv_has ls 3 [(0, .ref (x 0)), (1, .int y)] := hl
  refine lv_aload_n hx hb dX4_strike_0 rfl (lv_at hl 0 rfl) ?_
  refine lv_iconst (v := 0) hx hb dX4_strike_1 (by decide) ?_
  refine va_put (D := G.1) (ci := 4) (v := .int 0) (ty := .int) (C := RX4) (T := TX4) (N := 9) hx hb hts (fun w9 h9 => List.mem_cons_of_mem _ (List.mem_append_right _ h9)) tyX4 tyX4_ok nmX4 hown hK hP hD hS 0 rfl rfl 0 (by decide) (hts (.fieldLink RX4 35 "GlassHarpModel" "thrown" "I") (List.mem_of_getElem? (i := 1) rfl)) (fun _ h9 => h9) rfl (tyX4_ok 0 (by decide)) rfl rfl (Nat.le_of_ble_eq_true rfl) dX4_strike_2 (fun H locs hP hD hS => ?_)
  have hP : va_P G.1 vwCl (wM G x (a 0) s2 (gh_st r 0 (fun _ => 0))) H := hP
  have hD : va_D A (wM G x (a 0) s2 (gh_st r 0 (fun _ => 0))) := hD
  refine lv_iload_n hx hb dX4_strike_5 rfl (lv_at hl 1 rfl) ?_
  refine lv_iconst (v := 0) hx hb dX4_strike_6 (by decide) ?_
  refine lv_aload_n hx hb dX4_strike_7 rfl (lv_at hl 0 rfl) ?_
  refine va_get (D := G.1) (ci := 4) (v := .int (r 2 0)) (C := RX4) (T := TX4) (N := 9) hx hb hts (fun w9 h9 => List.mem_cons_of_mem _ (List.mem_append_right _ h9)) hown hK hP 0 rfl rfl 2 (by decide) (hts (.fieldLink RX4 91 "GlassHarpModel" "notes" "I") (List.mem_of_getElem? (i := 2) rfl)) (fun _ h9 => h9) rfl dX4_strike_8 ?_
  refine gh_vv (y := nI nn) (hz) ?_
  refine lv_iconst (v := 1) hx hb dX4_strike_11 (by decide) ?_
  refine lv_isub hx hb dX4_strike_12 ?_
  refine gh_ci (va_runS (As := [.int y, .int 0, .int ((nI nn) - 1)]) (rest := []) ⟨hx, hb, hml, hown, hts⟩ (c_X4_isIn l G y 0 ((nI nn) - 1)) (va_cwS 3 hts gX4_strike_X4_isIn rfl rfl rfl hdS_X4_isIn ⟨Nat.le_of_ble_eq_true rfl, Nat.le_of_ble_eq_true rfl⟩) (gh_rS hE (fun k q h => by simp at h)) rfl rfl hl.1 rfl (lv_room (Nat.le_of_ble_eq_true rfl)) dX4_strike_13 ⟨Nat.le_of_ble_eq_true rfl, Nat.le_of_ble_eq_true rfl⟩) ?_
  refine lv_if_ne (tgt := 25) hx hb dX4_strike_16 (by decide) (fun c_1 => ?_) (fun c_1 => ?_)
  · skip
    obtain ⟨k, hk, ek⟩ := gm_ig c_1 (Nat.lt_of_le_of_lt hz32 (by decide))
    have ekc : y.toNatClampNeg = k := by rw [ek, nI_clamp (Nat.lt_trans hk (Nat.lt_of_le_of_lt hz32 (by decide)))]
    refine lv_aload_n hx hb dX4_strike_25 rfl (lv_at hl 0 rfl) ?_
    refine va_get (D := G.1) (ci := 4) (v := .ref (x 3)) (C := RX4) (T := TX4) (N := 9) hx hb hts (fun w9 h9 => List.mem_cons_of_mem _ (List.mem_append_right _ h9)) hown hK hP 0 rfl rfl 3 (by decide) (hts (.fieldLink RX4 13 "GlassHarpModel" "score" "[I") (List.mem_of_getElem? (i := 3) rfl)) (fun _ h9 => h9) rfl dX4_strike_26 ?_
    refine lv_iconst (v := 3) hx hb dX4_strike_29 (by decide) ?_
    refine lv_iload_n hx hb dX4_strike_30 rfl (lv_at hl 1 rfl) ?_
    refine gh_vv (y := nI k) (ek) ?_
    refine lv_imul hx hb dX4_strike_31 ?_
    refine gh_vv (y := nI (3 * k)) (pk_mul 3 k) ?_
    refine lv_iconst (v := 1) hx hb dX4_strike_32 (by decide) ?_
    refine lv_iadd hx hb dX4_strike_33 ?_
    refine gh_vv (y := nI (3 * k + 1)) (nI_1 (3 * k)) ?_
    refine gh_ia (f := r 3) hx hb hK hP 1 0 rfl rfl (3 * k + 1) (rfl) (by omega) (by decide) dX4_strike_34 ?_
    refine lv_istore_n (lv' := [(2, .int (r 3 (3 * k + 1))), (0, .ref (x 0)), (1, .int y)]) hx hb dX4_strike_35 rfl hl (by decide) rfl (fun ls hl => ?_)
    refine lv_aload_n hx hb dX4_strike_36 rfl (lv_at hl 1 rfl) ?_
    refine lv_dup hx hb dX4_strike_37 rfl ?_
    refine va_get (D := G.1) (ci := 4) (v := .int (r 2 0)) (C := RX4) (T := TX4) (N := 9) hx hb hts (fun w9 h9 => List.mem_cons_of_mem _ (List.mem_append_right _ h9)) hown hK hP 0 rfl rfl 2 (by decide) (hts (.fieldLink RX4 91 "GlassHarpModel" "notes" "I") (List.mem_of_getElem? (i := 2) rfl)) (fun _ h9 => h9) rfl dX4_strike_38 ?_
    refine gh_vv (y := nI nn) (hz) ?_
    refine lv_iconst (v := 1) hx hb dX4_strike_41 (by decide) ?_
    refine lv_isub hx hb dX4_strike_42 ?_
    refine gh_vv (y := nI (nn - 1)) (pk_sub (a := nn) (b := 1) (by omega)) ?_
    refine va_put (D := G.1) (ci := 4) (v := .int (nI (nn - 1))) (ty := .int) (C := RX4) (T := TX4) (N := 9) hx hb hts (fun w9 h9 => List.mem_cons_of_mem _ (List.mem_append_right _ h9)) tyX4 tyX4_ok nmX4 hown hK hP hD hS 0 rfl rfl 2 (by decide) (hts (.fieldLink RX4 91 "GlassHarpModel" "notes" "I") (List.mem_of_getElem? (i := 2) rfl)) (fun _ h9 => h9) rfl (tyX4_ok 2 (by decide)) rfl rfl (Nat.le_of_ble_eq_true rfl) dX4_strike_43 (fun H locs hP hD hS => ?_)
    have hP : va_P G.1 vwCl (wM G x (a 0) s2 (gh_st (gh_st r 0 (fun _ => 0)) 2 (fun _ => nI (nn - 1)))) H := hP
    have hD : va_D A (wM G x (a 0) s2 (gh_st (gh_st r 0 (fun _ => 0)) 2 (fun _ => nI (nn - 1)))) := hD
    refine lv_aload_n hx hb dX4_strike_46 rfl (lv_at hl 1 rfl) ?_
    refine va_get (D := G.1) (ci := 4) (v := .ref (x 3)) (C := RX4) (T := TX4) (N := 9) hx hb hts (fun w9 h9 => List.mem_cons_of_mem _ (List.mem_append_right _ h9)) hown hK hP 0 rfl rfl 3 (by decide) (hts (.fieldLink RX4 13 "GlassHarpModel" "score" "[I") (List.mem_of_getElem? (i := 3) rfl)) (fun _ h9 => h9) rfl dX4_strike_47 ?_
    refine lv_iconst (v := 3) hx hb dX4_strike_50 (by decide) ?_
    refine lv_iload_n hx hb dX4_strike_51 rfl (lv_at hl 2 rfl) ?_
    refine gh_vv (y := nI k) (ek) ?_
    refine lv_imul hx hb dX4_strike_52 ?_
    refine gh_vv (y := nI (3 * k)) (pk_mul 3 k) ?_
    refine lv_iconst (v := 3) hx hb dX4_strike_53 (by decide) ?_
    refine lv_iadd hx hb dX4_strike_54 ?_
    refine gh_vv (y := nI (3 * k + 3)) (nI_add (3 * k) 3) ?_
    refine lv_aload_n hx hb dX4_strike_55 rfl (lv_at hl 1 rfl) ?_
    refine va_get (D := G.1) (ci := 4) (v := .ref (x 3)) (C := RX4) (T := TX4) (N := 9) hx hb hts (fun w9 h9 => List.mem_cons_of_mem _ (List.mem_append_right _ h9)) hown hK hP 0 rfl rfl 3 (by decide) (hts (.fieldLink RX4 13 "GlassHarpModel" "score" "[I") (List.mem_of_getElem? (i := 3) rfl)) (fun _ h9 => h9) rfl dX4_strike_56 ?_
    refine lv_iconst (v := 3) hx hb dX4_strike_59 (by decide) ?_
    refine lv_iload_n hx hb dX4_strike_60 rfl (lv_at hl 2 rfl) ?_
    refine gh_vv (y := nI k) (ek) ?_
    refine lv_imul hx hb dX4_strike_61 ?_
    refine gh_vv (y := nI (3 * k)) (pk_mul 3 k) ?_
    refine lv_iconst (v := 3) hx hb dX4_strike_62 (by decide) ?_
    refine lv_aload_n hx hb dX4_strike_63 rfl (lv_at hl 1 rfl) ?_
    refine va_get (D := G.1) (ci := 4) (v := .int (nI (nn - 1))) (C := RX4) (T := TX4) (N := 9) hx hb hts (fun w9 h9 => List.mem_cons_of_mem _ (List.mem_append_right _ h9)) hown hK hP 0 rfl rfl 2 (by decide) (hts (.fieldLink RX4 91 "GlassHarpModel" "notes" "I") (List.mem_of_getElem? (i := 2) rfl)) (fun _ h9 => h9) rfl dX4_strike_64 ?_
    refine lv_iload_n hx hb dX4_strike_67 rfl (lv_at hl 2 rfl) ?_
    refine gh_vv (y := nI k) (ek) ?_
    refine lv_isub hx hb dX4_strike_68 ?_
    refine gh_vv (y := nI (nn - 1 - k)) (pk_sub (a := nn - 1) (b := k) (by omega)) ?_
    refine lv_imul hx hb dX4_strike_69 ?_
    refine gh_vv (y := nI (3 * (nn - 1 - k))) (pk_mul 3 (nn - 1 - k)) ?_
    refine gh_cp (f := r 3) (g := r 3) (ws' := wM G x (a 0) s2 (gh_st (gh_st (gh_st r 0 (fun _ => 0)) 2 (fun _ => nI (nn - 1))) 3 (va_cpy (r 3) (r 3) (3 * k + 3) (3 * k) (3 * (nn - 1 - k))))) hx hb (hml.trans hl.1.symm) hown (hts (.methodLink RX4 94 arraycopyName) (List.mem_of_getElem? (i := 4) rfl)) (hts (.native arraycopyName) (List.mem_of_getElem? (i := 5) rfl)) (hts (.static arraycopyName) (List.mem_of_getElem? (i := 6) rfl)) (hts (.initialized "java/lang/System") (List.mem_of_getElem? (i := 7) rfl)) hK hP hD hS 1 1 0 0 rfl rfl rfl rfl (3 * k + 3) rfl (3 * k) rfl (3 * (nn - 1 - k)) rfl (by omega) (by omega) (by decide) (by decide) (Nat.le_of_ble_eq_true rfl) (Nat.le_of_ble_eq_true rfl) dX4_strike_70 rfl (fun H locs hP hD hS => ?_)
    refine lv_iload_n hx hb dX4_strike_73 rfl (lv_at hl 0 rfl) ?_
    have hP9 : va_P G.1 vwCl (wM G x (a 0) s2 (gm_k1 (gm_no r 1) (gm_sk r nn y.toNatClampNeg) (gh_iw y 0 (nI nn - 1)))) H := by
      have e9 : gh_st (gh_st (gh_st r 0 (fun _ => 0)) 2 (fun _ => nI (nn - 1))) 3 (va_cpy (r 3) (r 3) (3 * k + 3) (3 * k) (3 * (nn - 1 - k))) = gm_k1 (gm_no r 1) (gm_sk r nn y.toNatClampNeg) (gh_iw y 0 (nI nn - 1)) := by first | (simp only [gm_k1, gm_sk, gm_no, gm_z, c_1, ekc, ↓reduceIte, if_true, if_false]; done) | (simp only [gm_k1, gm_sk, gm_no, gm_z]; simp only [c_1, ekc, ↓reduceIte, if_true, if_false]; done) | (simp [gm_k1, gm_sk, gm_no, gm_z, c_1, ekc, ↓reduceIte, if_true, if_false]; done)
      rw [← e9]
      exact hP
    exact W.iret (v := r 3 (3 * k + 1)) hx hb hr (fun t9 ht hW => ⟨⟨r 3 (3 * k + 1), (), rfl, by first | (simp only [gm_k1, gm_sk, gm_no, gm_z, c_1, ekc, ↓reduceIte, if_true, if_false]; done) | (simp only [gm_k1, gm_sk, gm_no, gm_z]; simp only [c_1, ekc, ↓reduceIte, if_true, if_false]; done) | (simp [gm_k1, gm_sk, gm_no, gm_z, c_1, ekc, ↓reduceIte, if_true, if_false]; done), gh_hp hP9 ht⟩, hS.F ht⟩) hS.2.2 dX4_strike_74
  · skip
    refine lv_aload_n hx hb dX4_strike_19 rfl (lv_at hl 0 rfl) ?_
    refine lv_iconst (v := 1) hx hb dX4_strike_20 (by decide) ?_
    refine gh_cw (wr := []) (ws' := wM G x (a 0) s2 (gh_st (gh_st r 0 (fun _ => 0)) 0 (fun _ => 1))) (va_runV (As := [.int 1]) (rest := []) ⟨hx, hb, hml, hown, hts⟩ (c_X4_no l G H.size x (gh_st r 0 (fun _ => 0)) a t s2 1) (cwV 1 hts gX4_strike_X4_no rfl rfl rfl ⟨rfl, hdS_X4_no⟩ ⟨Nat.le_of_ble_eq_true rfl, Nat.le_of_ble_eq_true rfl⟩) (gh_wV hE hP hD (ci := 4) (q0 := 0) rfl rfl) rfl rfl hl.1 rfl (lv_room (Nat.le_of_ble_eq_true rfl)) dX4_strike_21 ⟨Nat.le_of_ble_eq_true rfl, Nat.le_of_ble_eq_true rfl⟩) hP hD hS hA [0, 1, 2, 3] [] [0, 1, 2, 3] rfl rfl (by decide) (by decide) (by decide) [x 0, x 3, x 5, x 6] [x 0, x 3, x 5, x 6] rfl rfl rfl rfl rfl (fun H locs hP hD hS => ?_)
    have hP9 : va_P G.1 vwCl (wM G x (a 0) s2 (gm_k1 (gm_no r 1) (gm_sk r nn y.toNatClampNeg) (gh_iw y 0 (nI nn - 1)))) H := by
      have e9 : gh_st (gh_st r 0 (fun _ => 0)) 0 (fun _ => 1) = gm_k1 (gm_no r 1) (gm_sk r nn y.toNatClampNeg) (gh_iw y 0 (nI nn - 1)) := by first | (simp only [gm_k1, gm_sk, gm_no, gm_z, c_1, ↓reduceIte, if_true, if_false]; done) | (simp only [gm_k1, gm_sk, gm_no, gm_z]; simp only [c_1, ↓reduceIte, if_true, if_false]; done) | (simp [gm_k1, gm_sk, gm_no, gm_z, c_1, ↓reduceIte, if_true, if_false]; done)
      rw [← e9]
      exact hP
    exact W.iret (v := 0) hx hb hr (fun t9 ht hW => ⟨⟨0, (), rfl, by first | (simp only [gm_k1, gm_sk, gm_no, gm_z, c_1, ↓reduceIte, if_true, if_false]; done) | (simp only [gm_k1, gm_sk, gm_no, gm_z]; simp only [c_1, ↓reduceIte, if_true, if_false]; done) | (simp [gm_k1, gm_sk, gm_no, gm_z, c_1, ↓reduceIte, if_true, if_false]; done), gh_hp hP9 ht⟩, hS.F ht⟩) hS.2.2 dX4_strike_24
set_option maxHeartbeats 4000000 in
set_option maxRecDepth 100000 in
theorem c_X4_written (l : Launch) (G : gh_G) (sz : Nat) (x : Nat → Nat) (r : gh_B) (a : Nat → Nat) (t : gh_B) (s2 : Nat) (nn : Nat) (y : Int32) (z : Int32) (hz : r 2 0 = nI nn) (hz32 : nn ≤ 32) : Met l yX4_written wsX4_written ({ frames := 1, cells := 0, slots := 0, locals := 22 } : Room) (gh_w G [.ref (x 0), .int y, .int z] (wM G x (a 0) s2 r) sz) (va_Qi (fun (r9 : Int32) (_ : Unit) => r9 = gm_k2 0 (r 3 (3 * y.toNatClampNeg + z.toNatClampNeg)) (gh_iw y 0 (nI nn - 1)) (gh_iw z 0 2)) (fun _ t9 => va_P G.1 vwCl (wM G x (a 0) s2 (gm_k2 (gm_no r 1) (gm_z r) (gh_iw y 0 (nI nn - 1)) (gh_iw z 0 2))) t9.heap) (va_A (wM G x (a 0) s2 r) sz)) 0 0 (va_A (wM G x (a 0) s2 r) sz) := by
  refine Met.ofW (cc := cX4_written) (maxL := 3) (ret := (some .int)) (by decide) rfl ?_
  intro p e s m args below meth c s₁ B hml hv
  obtain ⟨rfl, hsz, hP, hE, hD0⟩ := hv
  have hx := B.exec
  have hb := B.bytes
  have hr := B.returns
  have hts := atoms_spec (ws := wsX4_written) B.pre
  have hown : s.vm.findClass RX4 = some m.cls := findClass_of_methodNamed B.named
  have hlocks := B.notSynchronized
  have hK := hE.1
  subst hsz
  have hD := hD0.self (sz := s.heap.size)
  generalize hAe : va_A (wM G x (a 0) s2 r) s.heap.size = A at hD ⊢
  have hA : ∀ q : Nat, s.heap.size ≤ q → A q := fun q h => by rw [← hAe]; exact Or.inr h
  have hS : va_S A s.heap s.heap [] := va_S.rf
  have hl := lv_entry ([.ref (x 0), .int y, .int z]) (n := 3) (Nat.le_of_ble_eq_true rfl)
  rw [lg_entry_eq]
  generalize (lg_sl ([.ref (x 0), .int y, .int z]) ++ List.replicate (3 - (lg_sl ([.ref (x 0), .int y, .int z])).length) Slot.unset).toArray = ls at hl ⊢
  have hl : lv_has ls 3 [(0, .ref (x 0)), (1, .int y), (2, .int z)] := hl
  refine lv_aload_n hx hb dX4_written_0 rfl (lv_at hl 0 rfl) ?_
  refine lv_iconst (v := 0) hx hb dX4_written_1 (by decide) ?_
  refine va_put (D := G.1) (ci := 4) (v := .int 0) (ty := .int) (C := RX4) (T := TX4) (N := 9) hx hb hts (fun w9 h9 => List.mem_cons_of_mem _ (List.mem_append_right _ h9)) tyX4 tyX4_ok nmX4 hown hK hP hD hS 0 rfl rfl 0 (by decide) (hts (.fieldLink RX4 35 "GlassHarpModel" "thrown" "I") (List.mem_of_getElem? (i := 1) rfl)) (fun _ h9 => h9) rfl (tyX4_ok 0 (by decide)) rfl rfl (Nat.le_of_ble_eq_true rfl) dX4_written_2 (fun H locs hP hD hS => ?_)
  have hP : va_P G.1 vwCl (wM G x (a 0) s2 (gh_st r 0 (fun _ => 0))) H := hP
  have hD : va_D A (wM G x (a 0) s2 (gh_st r 0 (fun _ => 0))) := hD
  refine lv_iload_n hx hb dX4_written_5 rfl (lv_at hl 1 rfl) ?_
  refine lv_iconst (v := 0) hx hb dX4_written_6 (by decide) ?_
  refine lv_aload_n hx hb dX4_written_7 rfl (lv_at hl 0 rfl) ?_
  refine va_get (D := G.1) (ci := 4) (v := .int (r 2 0)) (C := RX4) (T := TX4) (N := 9) hx hb hts (fun w9 h9 => List.mem_cons_of_mem _ (List.mem_append_right _ h9)) hown hK hP 0 rfl rfl 2 (by decide) (hts (.fieldLink RX4 91 "GlassHarpModel" "notes" "I") (List.mem_of_getElem? (i := 2) rfl)) (fun _ h9 => h9) rfl dX4_written_8 ?_
  refine gh_vv (y := nI nn) (hz) ?_
  refine lv_iconst (v := 1) hx hb dX4_written_11 (by decide) ?_
  refine lv_isub hx hb dX4_written_12 ?_
  refine gh_ci (va_runS (As := [.int y, .int 0, .int ((nI nn) - 1)]) (rest := []) ⟨hx, hb, hml, hown, hts⟩ (c_X4_isIn l G y 0 ((nI nn) - 1)) (va_cwS 3 hts gX4_written_X4_isIn rfl rfl rfl hdS_X4_isIn ⟨Nat.le_of_ble_eq_true rfl, Nat.le_of_ble_eq_true rfl⟩) (gh_rS hE (fun k q h => by simp at h)) rfl rfl hl.1 rfl (lv_room (Nat.le_of_ble_eq_true rfl)) dX4_written_13 ⟨Nat.le_of_ble_eq_true rfl, Nat.le_of_ble_eq_true rfl⟩) ?_
  refine lv_if_eq (tgt := 41) hx hb dX4_written_16 (by decide) (fun c_1 => ?_) (fun c_1 => ?_)
  · skip
    refine lv_aload_n hx hb dX4_written_41 rfl (lv_at hl 0 rfl) ?_
    refine lv_iconst (v := 1) hx hb dX4_written_42 (by decide) ?_
    refine gh_cw (wr := []) (ws' := wM G x (a 0) s2 (gh_st (gh_st r 0 (fun _ => 0)) 0 (fun _ => 1))) (va_runV (As := [.int 1]) (rest := []) ⟨hx, hb, hml, hown, hts⟩ (c_X4_no l G H.size x (gh_st r 0 (fun _ => 0)) a t s2 1) (cwV 1 hts gX4_written_X4_no rfl rfl rfl ⟨rfl, hdS_X4_no⟩ ⟨Nat.le_of_ble_eq_true rfl, Nat.le_of_ble_eq_true rfl⟩) (gh_wV hE hP hD (ci := 4) (q0 := 0) rfl rfl) rfl rfl hl.1 rfl (lv_room (Nat.le_of_ble_eq_true rfl)) dX4_written_43 ⟨Nat.le_of_ble_eq_true rfl, Nat.le_of_ble_eq_true rfl⟩) hP hD hS hA [0, 1, 2, 3] [] [0, 1, 2, 3] rfl rfl (by decide) (by decide) (by decide) [x 0, x 3, x 5, x 6] [x 0, x 3, x 5, x 6] rfl rfl rfl rfl rfl (fun H locs hP hD hS => ?_)
    have hP9 : va_P G.1 vwCl (wM G x (a 0) s2 (gm_k2 (gm_no r 1) (gm_z r) (gh_iw y 0 (nI nn - 1)) (gh_iw z 0 2))) H := by
      have e9 : gh_st (gh_st r 0 (fun _ => 0)) 0 (fun _ => 1) = gm_k2 (gm_no r 1) (gm_z r) (gh_iw y 0 (nI nn - 1)) (gh_iw z 0 2) := by first | (simp only [gm_k2, gm_no, gm_z, c_1, ↓reduceIte, if_true, if_false]; done) | (simp only [gm_k2, gm_no, gm_z]; simp only [c_1, ↓reduceIte, if_true, if_false]; done) | (simp [gm_k2, gm_no, gm_z, c_1, ↓reduceIte, if_true, if_false]; done)
      rw [← e9]
      exact hP
    exact W.iret (v := 0) hx hb hr (fun t9 ht hW => ⟨⟨0, (), rfl, by first | (simp only [gm_k2, gm_no, gm_z, c_1, ↓reduceIte, if_true, if_false]; done) | (simp only [gm_k2, gm_no, gm_z]; simp only [c_1, ↓reduceIte, if_true, if_false]; done) | (simp [gm_k2, gm_no, gm_z, c_1, ↓reduceIte, if_true, if_false]; done), gh_hp hP9 ht⟩, hS.F ht⟩) hS.2.2 dX4_written_46
  · skip
    obtain ⟨k, hk, ek⟩ := gm_ig c_1 (Nat.lt_of_le_of_lt hz32 (by decide))
    have ekc : y.toNatClampNeg = k := by rw [ek, nI_clamp (Nat.lt_trans hk (Nat.lt_of_le_of_lt hz32 (by decide)))]
    refine lv_iload_n hx hb dX4_written_19 rfl (lv_at hl 2 rfl) ?_
    refine lv_iconst (v := 0) hx hb dX4_written_20 (by decide) ?_
    refine lv_iconst (v := 2) hx hb dX4_written_21 (by decide) ?_
    refine gh_ci (va_runS (As := [.int z, .int 0, .int 2]) (rest := []) ⟨hx, hb, hml, hown, hts⟩ (c_X4_isIn l G z 0 2) (va_cwS 3 hts gX4_written_X4_isIn rfl rfl rfl hdS_X4_isIn ⟨Nat.le_of_ble_eq_true rfl, Nat.le_of_ble_eq_true rfl⟩) (gh_rS hE (fun k q h => by simp at h)) rfl rfl hl.1 rfl (lv_room (Nat.le_of_ble_eq_true rfl)) dX4_written_22 ⟨Nat.le_of_ble_eq_true rfl, Nat.le_of_ble_eq_true rfl⟩) ?_
    refine lv_if_eq (tgt := 41) hx hb dX4_written_25 (by decide) (fun c_2 => ?_) (fun c_2 => ?_)
    · skip
      refine lv_aload_n hx hb dX4_written_41 rfl (lv_at hl 0 rfl) ?_
      refine lv_iconst (v := 1) hx hb dX4_written_42 (by decide) ?_
      refine gh_cw (wr := []) (ws' := wM G x (a 0) s2 (gh_st (gh_st r 0 (fun _ => 0)) 0 (fun _ => 1))) (va_runV (As := [.int 1]) (rest := []) ⟨hx, hb, hml, hown, hts⟩ (c_X4_no l G H.size x (gh_st r 0 (fun _ => 0)) a t s2 1) (cwV 1 hts gX4_written_X4_no rfl rfl rfl ⟨rfl, hdS_X4_no⟩ ⟨Nat.le_of_ble_eq_true rfl, Nat.le_of_ble_eq_true rfl⟩) (gh_wV hE hP hD (ci := 4) (q0 := 0) rfl rfl) rfl rfl hl.1 rfl (lv_room (Nat.le_of_ble_eq_true rfl)) dX4_written_43 ⟨Nat.le_of_ble_eq_true rfl, Nat.le_of_ble_eq_true rfl⟩) hP hD hS hA [0, 1, 2, 3] [] [0, 1, 2, 3] rfl rfl (by decide) (by decide) (by decide) [x 0, x 3, x 5, x 6] [x 0, x 3, x 5, x 6] rfl rfl rfl rfl rfl (fun H locs hP hD hS => ?_)
      have hP9 : va_P G.1 vwCl (wM G x (a 0) s2 (gm_k2 (gm_no r 1) (gm_z r) (gh_iw y 0 (nI nn - 1)) (gh_iw z 0 2))) H := by
        have e9 : gh_st (gh_st r 0 (fun _ => 0)) 0 (fun _ => 1) = gm_k2 (gm_no r 1) (gm_z r) (gh_iw y 0 (nI nn - 1)) (gh_iw z 0 2) := by first | (simp only [gm_k2, gm_no, gm_z, c_1, ekc, c_2, ↓reduceIte, if_true, if_false]; done) | (simp only [gm_k2, gm_no, gm_z]; simp only [c_1, ekc, c_2, ↓reduceIte, if_true, if_false]; done) | (simp [gm_k2, gm_no, gm_z, c_1, ekc, c_2, ↓reduceIte, if_true, if_false]; done)
        rw [← e9]
        exact hP
      exact W.iret (v := 0) hx hb hr (fun t9 ht hW => ⟨⟨0, (), rfl, by first | (simp only [gm_k2, gm_no, gm_z, c_1, ekc, c_2, ↓reduceIte, if_true, if_false]; done) | (simp only [gm_k2, gm_no, gm_z]; simp only [c_1, ekc, c_2, ↓reduceIte, if_true, if_false]; done) | (simp [gm_k2, gm_no, gm_z, c_1, ekc, c_2, ↓reduceIte, if_true, if_false]; done), gh_hp hP9 ht⟩, hS.F ht⟩) hS.2.2 dX4_written_46
    · skip
      obtain ⟨w, hw, ew⟩ := gm_i8 (k := 3) c_2 (by decide) (by decide) (by decide)
      have ewc : z.toNatClampNeg = w := by rw [ew, nI_clamp (Nat.lt_trans hw (by decide))]
      refine lv_aload_n hx hb dX4_written_28 rfl (lv_at hl 0 rfl) ?_
      refine va_get (D := G.1) (ci := 4) (v := .ref (x 3)) (C := RX4) (T := TX4) (N := 9) hx hb hts (fun w9 h9 => List.mem_cons_of_mem _ (List.mem_append_right _ h9)) hown hK hP 0 rfl rfl 3 (by decide) (hts (.fieldLink RX4 13 "GlassHarpModel" "score" "[I") (List.mem_of_getElem? (i := 3) rfl)) (fun _ h9 => h9) rfl dX4_written_29 ?_
      refine lv_iconst (v := 3) hx hb dX4_written_32 (by decide) ?_
      refine lv_iload_n hx hb dX4_written_33 rfl (lv_at hl 1 rfl) ?_
      refine gh_vv (y := nI k) (ek) ?_
      refine lv_imul hx hb dX4_written_34 ?_
      refine gh_vv (y := nI (3 * k)) (pk_mul 3 k) ?_
      refine lv_iload_n hx hb dX4_written_35 rfl (lv_at hl 2 rfl) ?_
      refine gh_vv (y := nI w) (ew) ?_
      refine lv_iadd hx hb dX4_written_36 ?_
      refine gh_vv (y := nI (3 * k + w)) (nI_add (3 * k) w) ?_
      refine gh_ia (f := r 3) hx hb hK hP 1 0 rfl rfl (3 * k + w) (rfl) (by omega) (by decide) dX4_written_37 ?_
      refine lv_goto (tgt := 46) hx hb dX4_written_38 (by decide) ?_
      have hP9 : va_P G.1 vwCl (wM G x (a 0) s2 (gm_k2 (gm_no r 1) (gm_z r) (gh_iw y 0 (nI nn - 1)) (gh_iw z 0 2))) H := by
        have e9 : gh_st r 0 (fun _ => 0) = gm_k2 (gm_no r 1) (gm_z r) (gh_iw y 0 (nI nn - 1)) (gh_iw z 0 2) := by first | (simp only [gm_k2, gm_no, gm_z, c_1, ekc, c_2, ewc, ↓reduceIte, if_true, if_false]; done) | (simp only [gm_k2, gm_no, gm_z]; simp only [c_1, ekc, c_2, ewc, ↓reduceIte, if_true, if_false]; done) | (simp [gm_k2, gm_no, gm_z, c_1, ekc, c_2, ewc, ↓reduceIte, if_true, if_false]; done)
        rw [← e9]
        exact hP
      exact W.iret (v := r 3 (3 * k + w)) hx hb hr (fun t9 ht hW => ⟨⟨r 3 (3 * k + w), (), rfl, by first | (simp only [gm_k2, gm_no, gm_z, c_1, ekc, c_2, ewc, ↓reduceIte, if_true, if_false]; done) | (simp only [gm_k2, gm_no, gm_z]; simp only [c_1, ekc, c_2, ewc, ↓reduceIte, if_true, if_false]; done) | (simp [gm_k2, gm_no, gm_z, c_1, ekc, c_2, ewc, ↓reduceIte, if_true, if_false]; done), gh_hp hP9 ht⟩, hS.F ht⟩) hS.2.2 dX4_written_46
