set_option maxHeartbeats 4000000 in
set_option maxRecDepth 100000 in
theorem c_X4_play (l : Launch) (G : gh_G) (sz : Nat) (x : Nat → Nat) (r : gh_B) (a : Nat → Nat) (t : gh_B) (s2 : Nat) (n : Nat) (nn : Nat) (y : Int32) (hn : r 4 0 = nI n) (hn16 : n ≤ 16) (hsz : ∀ j : Nat, j < n → ¬ 4 * r 6 j = 0) (hrw : ∀ j : Nat, j < n → vp_in (r 5 j) 4) (hz : r 2 0 = nI nn) (hz32 : nn ≤ 32) (hln : ¬ r 1 0 = 0) : Met l yX4_play wsX4_play ({ frames := 5, cells := 0, slots := 0, locals := 109 } : Room) (gh_w G [.ref (x 0), .int y] ((wM G x (a 0) s2 r) ++ (wT G a (x 0) t)) sz) (va_Qi (fun (r9 : Int32) (_ : Unit) => r9 = gm_k1 0 (gm_go (gm_z r) t n nn y.toNatClampNeg 1 0 - t 1 0) (gh_iw y 1 200)) (fun _ t9 => va_P G.1 vwCl ((wM G x (a 0) s2 (gm_k1 (gm_no r 1) (gm_z r) (gh_iw y 1 200))) ++ (wT G a (x 0) (gm_k1 t (gm_go (gm_z r) t n nn y.toNatClampNeg) (gh_iw y 1 200)))) t9.heap) (va_A ((wM G x (a 0) s2 r) ++ (wT G a (x 0) t)) sz)) 0 0 (va_A ((wM G x (a 0) s2 r) ++ (wT G a (x 0) t)) sz) := by
  refine Met.ofW (cc := cX4_play) (maxL := 4) (ret := (some .int)) (by decide) rfl ?_
  intro p e s m args below meth c s₁ B hml hv
  obtain ⟨rfl, hsz, hP, hE, hD0⟩ := hv
  have hx := B.exec
  have hb := B.bytes
  have hr := B.returns
  have hts := atoms_spec (ws := wsX4_play) B.pre
  have hown : s.vm.findClass RX4 = some m.cls := findClass_of_methodNamed B.named
  have hlocks := B.notSynchronized
  have hK := hE.1
  subst hsz
  have hD := hD0.self (sz := s.heap.size)
  generalize hAe : va_A ((wM G x (a 0) s2 r) ++ (wT G a (x 0) t)) s.heap.size = A at hD ⊢
  have hA : ∀ q : Nat, s.heap.size ≤ q → A q := fun q h => by rw [← hAe]; exact Or.inr h
  have hS : va_S A s.heap s.heap [] := va_S.rf
  have hl := lv_entry ([.ref (x 0), .int y]) (n := 4) (Nat.le_of_ble_eq_true rfl)
  rw [lg_entry_eq]
  generalize (lg_sl ([.ref (x 0), .int y]) ++ List.replicate (4 - (lg_sl ([.ref (x 0), .int y])).length) Slot.unset).toArray = ls at hl ⊢
  have hl : lv_has ls 4 [(0, .ref (x 0)), (1, .int y)] := hl
  refine lv_aload_n hx hb dX4_play_0 rfl (lv_at hl 0 rfl) ?_
  refine lv_iconst (v := 0) hx hb dX4_play_1 (by decide) ?_
  refine va_put (D := G.1) (ci := 4) (v := .int 0) (ty := .int) (C := RX4) (T := TX4) (N := 9) hx hb hts (fun w9 h9 => List.mem_cons_of_mem _ (List.mem_append_left _ (List.mem_append_right _ h9))) tyX4 tyX4_ok nmX4 hown hK hP hD hS 0 rfl rfl 0 (by decide) (hts (.fieldLink RX4 35 "GlassHarpModel" "thrown" "I") (List.mem_of_getElem? (i := 1) rfl)) (fun _ h9 => h9) rfl (tyX4_ok 0 (by decide)) rfl rfl (Nat.le_of_ble_eq_true rfl) dX4_play_2 (fun H locs hP hD hS => ?_)
  have hP : va_P G.1 vwCl ((wM G x (a 0) s2 (gh_st r 0 (fun _ => 0))) ++ (wT G a (x 0) t)) H := hP
  have hD : va_D A ((wM G x (a 0) s2 (gh_st r 0 (fun _ => 0))) ++ (wT G a (x 0) t)) := hD
  refine lv_iload_n hx hb dX4_play_5 rfl (lv_at hl 1 rfl) ?_
  refine lv_iconst (v := 1) hx hb dX4_play_6 (by decide) ?_
  refine lv_sipush (v := 200) hx hb dX4_play_7 (by decide) ?_
  refine gh_ci (va_runS (As := [.int y, .int 1, .int 200]) (rest := []) ⟨hx, hb, hml, hown, hts⟩ (c_X4_isIn l G y 1 200) (va_cwS 3 hts gX4_play_X4_isIn rfl rfl rfl hdS_X4_isIn ⟨Nat.le_of_ble_eq_true rfl, Nat.le_of_ble_eq_true rfl⟩) (gh_rS hE (fun k q h => by simp at h)) rfl rfl hl.1 rfl (lv_room (Nat.le_of_ble_eq_true rfl)) dX4_play_10 ⟨Nat.le_of_ble_eq_true rfl, Nat.le_of_ble_eq_true rfl⟩) ?_
  refine lv_if_ne (tgt := 22) hx hb dX4_play_13 (by decide) (fun c_1 => ?_) (fun c_1 => ?_)
  · skip
    obtain ⟨b, hb1, hb2, eb⟩ := gh_iw_r (a := 1) (b := 200) c_1 (by decide) (by decide) (by decide) (by decide)
    have ebc : y.toNatClampNeg = b := by rw [eb, nI_clamp (Nat.lt_of_le_of_lt hb2 (by decide))]
    refine lv_aload_n hx hb dX4_play_22 rfl (lv_at hl 0 rfl) ?_
    refine va_get (D := G.1) (ci := 4) (v := .ref (a 0)) (C := RX4) (T := TX4) (N := 9) hx hb hts (fun w9 h9 => List.mem_cons_of_mem _ (List.mem_append_left _ (List.mem_append_right _ h9))) hown hK hP 0 rfl rfl 7 (by decide) (hts (.fieldLink RX4 28 "GlassHarpModel" "s" "LGlassHarpModel$State;") (List.mem_of_getElem? (i := 2) rfl)) (fun _ h9 => h9) rfl dX4_play_23 ?_
    refine va_getN (D := G.1) (ci := 3) (v := .int (t 1 0)) (C := RX3) (T := TX3) (N := 12) hx hb hts (fun w9 h9 => List.mem_cons_of_mem _ (List.mem_append_right _ h9)) hown hK hP 4 rfl rfl 1 (by decide) (va_Nw.use rfl (hE.2.2 (RX4, 100, "GlassHarpModel$State", "played", "I", RX4) (List.mem_of_getElem? (i := 23) rfl))) (fun _ h9 => h9) rfl dX4_play_26 ?_
    refine lv_istore_n (lv' := [(2, .int (t 1 0)), (0, .ref (x 0)), (1, .int y)]) hx hb dX4_play_29 rfl hl (by decide) rfl (fun ls hl => ?_)
    refine lv_iconst (v := 0) hx hb dX4_play_30 (by decide) ?_
    refine lv_istore_n (lv' := [(3, .int 0), (2, .int (t 1 0)), (0, .ref (x 0)), (1, .int y)]) hx hb dX4_play_31 rfl hl (by decide) rfl (fun ls hl => ?_)
    have J32 : ∀ (B : gh_B), (B = gm_go (gh_st r 0 (fun _ => 0)) t n nn 0) → ∀ (H : Heap) (locs : List Loc), va_P G.1 vwCl ((wM G x (a 0) s2 (gh_st r 0 (fun _ => 0))) ++ (wT G a (x 0) B)) H → va_D A ((wM G x (a 0) s2 (gh_st r 0 (fun _ => 0))) ++ (wT G a (x 0) B)) → va_S A s.heap H locs → ∀ (ls : Array Slot), lv_has ls 4 [(0, .ref (x 0)), (1, .int y), (2, .int (t 1 0)), (3, .int (nI 0))] → W p l e (headSpec wsX4_play ({ frames := 5, cells := 0, slots := 0, locals := 109 } : Room)).room s m ([.ref (x 0), .int y] : List Value).toArray below meth c H locs 0 0 (MQ below (va_Qi (fun (r9 : Int32) (_ : Unit) => r9 = gm_k1 0 (gm_go (gm_z r) t n nn y.toNatClampNeg 1 0 - t 1 0) (gh_iw y 1 200)) (fun _ t9 => va_P G.1 vwCl ((wM G x (a 0) s2 (gm_k1 (gm_no r 1) (gm_z r) (gh_iw y 1 200))) ++ (wT G a (x 0) (gm_k1 t (gm_go (gm_z r) t n nn y.toNatClampNeg) (gh_iw y 1 200)))) t9.heap) A) ([.ref (x 0), .int y] : List Value).toArray s 0 0 A) (F0 m 32 ls []) := by
      refine gh_loop (n := b) (i0 := 0) (Nat.zero_le _) (P := fun i => ∀ (B : gh_B), (B = gm_go (gh_st r 0 (fun _ => 0)) t n nn i) → ∀ (H : Heap) (locs : List Loc), va_P G.1 vwCl ((wM G x (a 0) s2 (gh_st r 0 (fun _ => 0))) ++ (wT G a (x 0) B)) H → va_D A ((wM G x (a 0) s2 (gh_st r 0 (fun _ => 0))) ++ (wT G a (x 0) B)) → va_S A s.heap H locs → ∀ (ls : Array Slot), lv_has ls 4 [(0, .ref (x 0)), (1, .int y), (2, .int (t 1 0)), (3, .int (nI i))] → W p l e (headSpec wsX4_play ({ frames := 5, cells := 0, slots := 0, locals := 109 } : Room)).room s m ([.ref (x 0), .int y] : List Value).toArray below meth c H locs 0 0 (MQ below (va_Qi (fun (r9 : Int32) (_ : Unit) => r9 = gm_k1 0 (gm_go (gm_z r) t n nn y.toNatClampNeg 1 0 - t 1 0) (gh_iw y 1 200)) (fun _ t9 => va_P G.1 vwCl ((wM G x (a 0) s2 (gm_k1 (gm_no r 1) (gm_z r) (gh_iw y 1 200))) ++ (wT G a (x 0) (gm_k1 t (gm_go (gm_z r) t n nn y.toNatClampNeg) (gh_iw y 1 200)))) t9.heap) A) ([.ref (x 0), .int y] : List Value).toArray s 0 0 A) (F0 m 32 ls [])) ?_ ?_
      · skip
        intro B EB H locs hP hD hS ls hl
        refine lv_iload_n hx hb dX4_play_32 rfl (lv_at hl 3 rfl) ?_
        refine lv_iload_n hx hb dX4_play_33 rfl (lv_at hl 1 rfl) ?_
        refine gh_vv (y := nI b) (eb) ?_
        refine lv_icmp_ge (tgt := 50) hx hb dX4_play_34 (by decide) (fun c_2 => ?_) (fun c_2 => absurd (nI_le (Nat.le_refl _) (Nat.lt_of_le_of_lt hb2 (by decide))) c_2)
        refine lv_aload_n hx hb dX4_play_50 rfl (lv_at hl 0 rfl) ?_
        refine va_get (D := G.1) (ci := 4) (v := .ref (a 0)) (C := RX4) (T := TX4) (N := 9) hx hb hts (fun w9 h9 => List.mem_cons_of_mem _ (List.mem_append_left _ (List.mem_append_right _ h9))) hown hK hP 0 rfl rfl 7 (by decide) (hts (.fieldLink RX4 28 "GlassHarpModel" "s" "LGlassHarpModel$State;") (List.mem_of_getElem? (i := 2) rfl)) (fun _ h9 => h9) rfl dX4_play_51 ?_
        refine va_getN (D := G.1) (ci := 3) (v := .int (B 1 0)) (C := RX3) (T := TX3) (N := 12) hx hb hts (fun w9 h9 => List.mem_cons_of_mem _ (List.mem_append_right _ h9)) hown hK hP 4 rfl rfl 1 (by decide) (va_Nw.use rfl (hE.2.2 (RX4, 100, "GlassHarpModel$State", "played", "I", RX4) (List.mem_of_getElem? (i := 23) rfl))) (fun _ h9 => h9) rfl dX4_play_54 ?_
        refine lv_iload_n hx hb dX4_play_57 rfl (lv_at hl 2 rfl) ?_
        refine lv_isub hx hb dX4_play_58 ?_
        have hP9 : va_P G.1 vwCl ((wM G x (a 0) s2 (gm_k1 (gm_no r 1) (gm_z r) (gh_iw y 1 200))) ++ (wT G a (x 0) (gm_k1 t (gm_go (gm_z r) t n nn y.toNatClampNeg) (gh_iw y 1 200)))) H := by
          have e9 : gh_st r 0 (fun _ => 0) = gm_k1 (gm_no r 1) (gm_z r) (gh_iw y 1 200) := by first | (simp only [gm_k1, gm_no, gm_z, ← EB, c_1, ebc, c_2, ↓reduceIte, if_true, if_false]; done) | (simp only [gm_k1, gm_no, gm_z, ← EB]; simp only [c_1, ebc, c_2, ↓reduceIte, if_true, if_false]; done) | (simp [gm_k1, gm_no, gm_z, ← EB, c_1, ebc, c_2, ↓reduceIte, if_true, if_false]; done)
          rw [← e9]
          have e9 : B = gm_k1 t (gm_go (gm_z r) t n nn y.toNatClampNeg) (gh_iw y 1 200) := by first | (simp only [gm_k1, gm_no, gm_z, ← EB, c_1, ebc, c_2, ↓reduceIte, if_true, if_false]; done) | (simp only [gm_k1, gm_no, gm_z, ← EB]; simp only [c_1, ebc, c_2, ↓reduceIte, if_true, if_false]; done) | (simp [gm_k1, gm_no, gm_z, ← EB, c_1, ebc, c_2, ↓reduceIte, if_true, if_false]; done)
          rw [← e9]
          exact hP
        exact W.iret (v := (B 1 0) - (t 1 0)) hx hb hr (fun t9 ht hW => ⟨⟨(B 1 0) - (t 1 0), (), rfl, by first | (simp only [gm_k1, gm_no, gm_z, ← EB, c_1, ebc, c_2, ↓reduceIte, if_true, if_false]; done) | (simp only [gm_k1, gm_no, gm_z, ← EB]; simp only [c_1, ebc, c_2, ↓reduceIte, if_true, if_false]; done) | (simp [gm_k1, gm_no, gm_z, ← EB, c_1, ebc, c_2, ↓reduceIte, if_true, if_false]; done), gh_hp hP9 ht⟩, hS.F ht⟩) hS.2.2 dX4_play_59
      · intro i hi_lo hi ih
        intro B EB H locs hP hD hS ls hl
        refine lv_iload_n hx hb dX4_play_32 rfl (lv_at hl 3 rfl) ?_
        refine lv_iload_n hx hb dX4_play_33 rfl (lv_at hl 1 rfl) ?_
        refine gh_vv (y := nI b) (eb) ?_
        refine lv_icmp_ge (tgt := 50) hx hb dX4_play_34 (by decide) (fun c_3 => absurd c_3 (nI_ge hi (Nat.lt_of_le_of_lt hb2 (by decide)))) (fun c_3 => ?_)
        refine lv_aload_n hx hb dX4_play_37 rfl (lv_at hl 0 rfl) ?_
        refine va_get (D := G.1) (ci := 4) (v := .ref (a 0)) (C := RX4) (T := TX4) (N := 9) hx hb hts (fun w9 h9 => List.mem_cons_of_mem _ (List.mem_append_left _ (List.mem_append_right _ h9))) hown hK hP 0 rfl rfl 7 (by decide) (hts (.fieldLink RX4 28 "GlassHarpModel" "s" "LGlassHarpModel$State;") (List.mem_of_getElem? (i := 2) rfl)) (fun _ h9 => h9) rfl dX4_play_38 ?_
        refine gh_cv (wr := []) (ws' := (wM G x (a 0) s2 (gh_st r 0 (fun _ => 0))) ++ (wT G a (x 0) (gm_pass (gh_st r 0 (fun _ => 0)) B n nn))) (va_runV (As := []) (rest := []) ⟨hx, hb, hml, hown, hts⟩ (c_X3_pass l G H.size a B x (a 0) s2 (gh_st r 0 (fun _ => 0)) n nn (hn) (hn16) (hsz) (hrw) (hz) (hz32) (hln)) (cwV 0 hts gX4_play_X3_pass rfl rfl rfl ⟨rfl, hdS_X3_pass⟩ ⟨Nat.le_of_ble_eq_true rfl, Nat.le_of_ble_eq_true rfl⟩) (gh_wV hE (hP.sub (ws' := (wT G a (x 0) B) ++ (wM G x (a 0) s2 (gh_st r 0 (fun _ => 0)))) [4, 5, 6, 7, 8, 9, 10, 0, 1, 2, 3] rfl) (hD.sub (ws' := (wT G a (x 0) B) ++ (wM G x (a 0) s2 (gh_st r 0 (fun _ => 0)))) [4, 5, 6, 7, 8, 9, 10, 0, 1, 2, 3] (by decide) rfl) (ci := 3) (q0 := 0) rfl rfl) rfl rfl hl.1 rfl (lv_room (Nat.le_of_ble_eq_true rfl)) dX4_play_41 ⟨Nat.le_of_ble_eq_true rfl, Nat.le_of_ble_eq_true rfl⟩) hP hD hS hA [4, 5, 6, 7, 8, 9, 10, 0, 1, 2, 3] [] [7, 8, 9, 10, 0, 1, 2, 3, 4, 5, 6] rfl rfl (by decide) (by decide) (by decide) [a 0, a 4, a 5, a 6, a 7, a 8, a 9, x 0, x 3, x 5, x 6] [x 0, x 3, x 5, x 6, a 0, a 4, a 5, a 6, a 7, a 8, a 9] rfl rfl rfl rfl rfl (fun H locs hP hD hS => ?_)
        refine lv_iinc (v := nI (i + 1)) (lv' := [(3, .int (nI (i + 1))), (0, .ref (x 0)), (1, .int y), (2, .int (t 1 0))]) hx hb dX4_play_44 hl (k := 3) rfl (nI_1 i) (by decide) rfl (fun ls hl => ?_)
        refine lv_goto (tgt := 32) hx hb dX4_play_47 (by decide) ?_
        exact ih (gm_pass (gh_st r 0 (fun _ => 0)) B n nn) (by first | (simp only [gm_go, ← EB, c_1, ebc, c_3, ↓reduceIte, if_true, if_false]; done) | (simp only [gm_go, ← EB]; simp only [c_1, ebc, c_3, ↓reduceIte, if_true, if_false]; done) | (simp [gm_go, ← EB, c_1, ebc, c_3, ↓reduceIte, if_true, if_false]; done)) _ _ hP hD hS _ (lv_sub hl [1, 2, 3, 0] rfl)
    exact J32 t (by first | (simp only [gm_go, c_1, ebc, ↓reduceIte, if_true, if_false]; done) | (simp only [gm_go]; simp only [c_1, ebc, ↓reduceIte, if_true, if_false]; done) | (simp [gm_go, c_1, ebc, ↓reduceIte, if_true, if_false]; done)) _ _ hP hD hS _ (lv_sub hl [2, 3, 1, 0] rfl)
  · skip
    refine lv_aload_n hx hb dX4_play_16 rfl (lv_at hl 0 rfl) ?_
    refine lv_iconst (v := 1) hx hb dX4_play_17 (by decide) ?_
    refine gh_cw (wr := wT G a (x 0) t) (ws' := (wM G x (a 0) s2 (gh_st (gh_st r 0 (fun _ => 0)) 0 (fun _ => 1))) ++ (wT G a (x 0) t)) (va_runV (As := [.int 1]) (rest := []) ⟨hx, hb, hml, hown, hts⟩ (c_X4_no l G H.size x (gh_st r 0 (fun _ => 0)) a t s2 1) (cwV 1 hts gX4_play_X4_no rfl rfl rfl ⟨rfl, hdS_X4_no⟩ ⟨Nat.le_of_ble_eq_true rfl, Nat.le_of_ble_eq_true rfl⟩) (gh_wV hE (hP.sub (ws' := wM G x (a 0) s2 (gh_st r 0 (fun _ => 0))) [0, 1, 2, 3] rfl) (hD.sub (ws' := wM G x (a 0) s2 (gh_st r 0 (fun _ => 0))) [0, 1, 2, 3] (by decide) rfl) (ci := 4) (q0 := 0) rfl rfl) rfl rfl hl.1 rfl (lv_room (Nat.le_of_ble_eq_true rfl)) dX4_play_18 ⟨Nat.le_of_ble_eq_true rfl, Nat.le_of_ble_eq_true rfl⟩) hP hD hS hA [0, 1, 2, 3] [4, 5, 6, 7, 8, 9, 10] [7, 8, 9, 10, 0, 1, 2, 3, 4, 5, 6] rfl rfl (by decide) (by decide) (by decide) [x 0, x 3, x 5, x 6] [x 0, x 3, x 5, x 6, a 0, a 4, a 5, a 6, a 7, a 8, a 9] rfl rfl rfl rfl rfl (fun H locs hP hD hS => ?_)
    have hP9 : va_P G.1 vwCl ((wM G x (a 0) s2 (gm_k1 (gm_no r 1) (gm_z r) (gh_iw y 1 200))) ++ (wT G a (x 0) (gm_k1 t (gm_go (gm_z r) t n nn y.toNatClampNeg) (gh_iw y 1 200)))) H := by
      have e9 : gh_st (gh_st r 0 (fun _ => 0)) 0 (fun _ => 1) = gm_k1 (gm_no r 1) (gm_z r) (gh_iw y 1 200) := by first | (simp only [gm_k1, gm_no, gm_z, c_1, ↓reduceIte, if_true, if_false]; done) | (simp only [gm_k1, gm_no, gm_z]; simp only [c_1, ↓reduceIte, if_true, if_false]; done) | (simp [gm_k1, gm_no, gm_z, c_1, ↓reduceIte, if_true, if_false]; done)
      rw [← e9]
      have e9 : t = gm_k1 t (gm_go (gm_z r) t n nn y.toNatClampNeg) (gh_iw y 1 200) := by first | (simp only [gm_k1, gm_no, gm_z, c_1, ↓reduceIte, if_true, if_false]; done) | (simp only [gm_k1, gm_no, gm_z]; simp only [c_1, ↓reduceIte, if_true, if_false]; done) | (simp [gm_k1, gm_no, gm_z, c_1, ↓reduceIte, if_true, if_false]; done)
      rw [← e9]
      exact hP
    exact W.iret (v := 0) hx hb hr (fun t9 ht hW => ⟨⟨0, (), rfl, by first | (simp only [gm_k1, gm_no, gm_z, c_1, ↓reduceIte, if_true, if_false]; done) | (simp only [gm_k1, gm_no, gm_z]; simp only [c_1, ↓reduceIte, if_true, if_false]; done) | (simp [gm_k1, gm_no, gm_z, c_1, ↓reduceIte, if_true, if_false]; done), gh_hp hP9 ht⟩, hS.F ht⟩) hS.2.2 dX4_play_21
set_option maxHeartbeats 4000000 in
set_option maxRecDepth 100000 in
theorem c_X4_run (l : Launch) (G : gh_G) (sz : Nat) (x : Nat → Nat) (s1 : Nat) (r : gh_B) (d : Nat → Nat) (q : gh_B) (n : Nat) (nn : Nat) (b : Nat) (hn : r 4 0 = nI n) (hn16 : n ≤ 16) (hsz : ∀ j : Nat, j < n → ¬ 4 * r 6 j = 0) (hrw : ∀ j : Nat, j < n → vp_in (r 5 j) 4) (hz : r 2 0 = nI nn) (hz32 : nn ≤ 32) (hln : ¬ r 1 0 = 0) (hbb : b < 2 ^ 31) : Met l yX4_run wsX4_run ({ frames := 5, cells := 0, slots := 0, locals := 109 } : Room) (gh_w G [.ref (x 0), .int (nI b)] ((wM G x s1 (d 0) r) ++ (wT G d (x 0) q)) sz) (va_Qv (fun _ : Unit => True) (fun _ t9 => va_P G.1 vwCl ((wM G x s1 (d 0) r) ++ (wT G d (x 0) (gm_go r q n nn b))) t9.heap) (va_A ((wM G x s1 (d 0) r) ++ (wT G d (x 0) q)) sz)) 0 0 (va_A ((wM G x s1 (d 0) r) ++ (wT G d (x 0) q)) sz) := by
  refine Met.ofW (cc := cX4_run) (maxL := 3) (ret := none) (by decide) rfl ?_
  intro p e s m args below meth c s₁ B hml hv
  obtain ⟨rfl, hsz, hP, hE, hD0⟩ := hv
  have hx := B.exec
  have hb := B.bytes
  have hr := B.returns
  have hts := atoms_spec (ws := wsX4_run) B.pre
  have hown : s.vm.findClass RX4 = some m.cls := findClass_of_methodNamed B.named
  have hlocks := B.notSynchronized
  have hK := hE.1
  subst hsz
  have hD := hD0.self (sz := s.heap.size)
  generalize hAe : va_A ((wM G x s1 (d 0) r) ++ (wT G d (x 0) q)) s.heap.size = A at hD ⊢
  have hA : ∀ q : Nat, s.heap.size ≤ q → A q := fun q h => by rw [← hAe]; exact Or.inr h
  have hS : va_S A s.heap s.heap [] := va_S.rf
  have hl := lv_entry ([.ref (x 0), .int (nI b)]) (n := 3) (Nat.le_of_ble_eq_true rfl)
  rw [lg_entry_eq]
  generalize (lg_sl ([.ref (x 0), .int (nI b)]) ++ List.replicate (3 - (lg_sl ([.ref (x 0), .int (nI b)])).length) Slot.unset).toArray = ls at hl ⊢
  have hl : lv_has ls 3 [(0, .ref (x 0)), (1, .int (nI b))] := hl
  refine lv_iconst (v := 0) hx hb dX4_run_0 (by decide) ?_
  refine lv_istore_n (lv' := [(2, .int 0), (0, .ref (x 0)), (1, .int (nI b))]) hx hb dX4_run_1 rfl hl (by decide) rfl (fun ls hl => ?_)
  have J2 : ∀ (B : gh_B), (B = gm_go r q n nn 0) → ∀ (H : Heap) (locs : List Loc), va_P G.1 vwCl ((wM G x s1 (d 0) r) ++ (wT G d (x 0) B)) H → va_D A ((wM G x s1 (d 0) r) ++ (wT G d (x 0) B)) → va_S A s.heap H locs → ∀ (ls : Array Slot), lv_has ls 3 [(0, .ref (x 0)), (1, .int (nI b)), (2, .int (nI 0))] → W p l e (headSpec wsX4_run ({ frames := 5, cells := 0, slots := 0, locals := 109 } : Room)).room s m ([.ref (x 0), .int (nI b)] : List Value).toArray below meth c H locs 0 0 (MQ below (va_Qv (fun _ : Unit => True) (fun _ t9 => va_P G.1 vwCl ((wM G x s1 (d 0) r) ++ (wT G d (x 0) (gm_go r q n nn b))) t9.heap) A) ([.ref (x 0), .int (nI b)] : List Value).toArray s 0 0 A) (F0 m 2 ls []) := by
    refine gh_loop (n := b) (i0 := 0) (Nat.zero_le _) (P := fun i => ∀ (B : gh_B), (B = gm_go r q n nn i) → ∀ (H : Heap) (locs : List Loc), va_P G.1 vwCl ((wM G x s1 (d 0) r) ++ (wT G d (x 0) B)) H → va_D A ((wM G x s1 (d 0) r) ++ (wT G d (x 0) B)) → va_S A s.heap H locs → ∀ (ls : Array Slot), lv_has ls 3 [(0, .ref (x 0)), (1, .int (nI b)), (2, .int (nI i))] → W p l e (headSpec wsX4_run ({ frames := 5, cells := 0, slots := 0, locals := 109 } : Room)).room s m ([.ref (x 0), .int (nI b)] : List Value).toArray below meth c H locs 0 0 (MQ below (va_Qv (fun _ : Unit => True) (fun _ t9 => va_P G.1 vwCl ((wM G x s1 (d 0) r) ++ (wT G d (x 0) (gm_go r q n nn b))) t9.heap) A) ([.ref (x 0), .int (nI b)] : List Value).toArray s 0 0 A) (F0 m 2 ls [])) ?_ ?_
    · skip
      intro B EB H locs hP hD hS ls hl
      refine lv_iload_n hx hb dX4_run_2 rfl (lv_at hl 2 rfl) ?_
      refine lv_iload_n hx hb dX4_run_3 rfl (lv_at hl 1 rfl) ?_
      refine lv_icmp_ge (tgt := 20) hx hb dX4_run_4 (by decide) (fun c_1 => ?_) (fun c_1 => absurd (nI_le (Nat.le_refl _) (hbb)) c_1)
      have hP9 : va_P G.1 vwCl ((wM G x s1 (d 0) r) ++ (wT G d (x 0) (gm_go r q n nn b))) H := by
        have e9 : B = gm_go r q n nn b := EB
        rw [← e9]
        exact hP
      exact W.vret hx hb hr (fun t9 ht hW => ⟨⟨(), rfl, trivial, gh_hp hP9 ht⟩, hS.F ht⟩) hS.2.2 dX4_run_20
    · intro i hi_lo hi ih
      intro B EB H locs hP hD hS ls hl
      refine lv_iload_n hx hb dX4_run_2 rfl (lv_at hl 2 rfl) ?_
      refine lv_iload_n hx hb dX4_run_3 rfl (lv_at hl 1 rfl) ?_
      refine lv_icmp_ge (tgt := 20) hx hb dX4_run_4 (by decide) (fun c_2 => absurd c_2 (nI_ge hi (hbb))) (fun c_2 => ?_)
      refine lv_aload_n hx hb dX4_run_7 rfl (lv_at hl 0 rfl) ?_
      refine va_get (D := G.1) (ci := 4) (v := .ref (d 0)) (C := RX4) (T := TX4) (N := 9) hx hb hts (fun w9 h9 => List.mem_cons_of_mem _ (List.mem_append_left _ (List.mem_append_right _ h9))) hown hK hP 0 rfl rfl 8 (by decide) (hts (.fieldLink RX4 32 "GlassHarpModel" "ahead" "LGlassHarpModel$State;") (List.mem_of_getElem? (i := 1) rfl)) (fun _ h9 => h9) rfl dX4_run_8 ?_
      refine gh_cv (wr := []) (ws' := (wM G x s1 (d 0) r) ++ (wT G d (x 0) (gm_pass r B n nn))) (va_runV (As := []) (rest := []) ⟨hx, hb, hml, hown, hts⟩ (c_X3_pass l G H.size d B x s1 (d 0) r n nn (hn) (hn16) (hsz) (hrw) (hz) (hz32) (hln)) (cwV 0 hts gX4_run_X3_pass rfl rfl rfl ⟨rfl, hdS_X3_pass⟩ ⟨Nat.le_of_ble_eq_true rfl, Nat.le_of_ble_eq_true rfl⟩) (gh_wV hE (hP.sub (ws' := (wT G d (x 0) B) ++ (wM G x s1 (d 0) r)) [4, 5, 6, 7, 8, 9, 10, 0, 1, 2, 3] rfl) (hD.sub (ws' := (wT G d (x 0) B) ++ (wM G x s1 (d 0) r)) [4, 5, 6, 7, 8, 9, 10, 0, 1, 2, 3] (by decide) rfl) (ci := 3) (q0 := 0) rfl rfl) rfl rfl hl.1 rfl (lv_room (Nat.le_of_ble_eq_true rfl)) dX4_run_11 ⟨Nat.le_of_ble_eq_true rfl, Nat.le_of_ble_eq_true rfl⟩) hP hD hS hA [4, 5, 6, 7, 8, 9, 10, 0, 1, 2, 3] [] [7, 8, 9, 10, 0, 1, 2, 3, 4, 5, 6] rfl rfl (by decide) (by decide) (by decide) [d 0, d 4, d 5, d 6, d 7, d 8, d 9, x 0, x 3, x 5, x 6] [x 0, x 3, x 5, x 6, d 0, d 4, d 5, d 6, d 7, d 8, d 9] rfl rfl rfl rfl rfl (fun H locs hP hD hS => ?_)
      refine lv_iinc (v := nI (i + 1)) (lv' := [(2, .int (nI (i + 1))), (0, .ref (x 0)), (1, .int (nI b))]) hx hb dX4_run_14 hl (k := 2) rfl (nI_1 i) (by decide) rfl (fun ls hl => ?_)
      refine lv_goto (tgt := 2) hx hb dX4_run_17 (by decide) ?_
      exact ih (gm_pass r B n nn) (by first | (simp only [gm_go, ← EB, c_2, ↓reduceIte, if_true, if_false]; done) | (simp only [gm_go, ← EB]; simp only [c_2, ↓reduceIte, if_true, if_false]; done) | (simp [gm_go, ← EB, c_2, ↓reduceIte, if_true, if_false]; done)) _ _ hP hD hS _ (lv_sub hl [1, 2, 0] rfl)
  exact J2 q (by first | (simp only [gm_go, ↓reduceIte, if_true, if_false]; done) | (simp only [gm_go, ↓reduceIte, if_true, if_false]; rfl) | (simp [gm_go, ↓reduceIte, if_true, if_false]; done)) _ _ hP hD hS _ (lv_sub hl [1, 2, 0] rfl)
set_option maxHeartbeats 4000000 in
set_option maxRecDepth 100000 in
theorem c_X4_counted (l : Launch) (G : gh_G) (sz : Nat) (x : Nat → Nat) (r : gh_B) (a : Nat → Nat) (t : gh_B) (s2 : Nat) (n : Nat) (nn : Nat) (w : Nat) (hn : r 4 0 = nI n) (hn16 : n ≤ 16) (hsz : ∀ j : Nat, j < n → ¬ 4 * r 6 j = 0) (hz : r 2 0 = nI nn) (hz32 : nn ≤ 32) (hw : w < 9) : Met l yX4_counted wsX4_counted ({ frames := 4, cells := 1, slots := 9, locals := 88 } : Room) (gh_w G [.ref (x 0), .int (nI w)] ((wM G x (a 0) s2 r) ++ (wT G a (x 0) t)) sz) (va_Qi (fun (r9 : Int32) (_ : Unit) => r9 = gm_cl r t n nn w) (fun _ t9 => va_P G.1 vwCl ((wM G x (a 0) s2 r) ++ (wT G a (x 0) t)) t9.heap) (va_A ((wM G x (a 0) s2 r) ++ (wT G a (x 0) t)) sz)) 1 9 (va_A ((wM G x (a 0) s2 r) ++ (wT G a (x 0) t)) sz) := by
  refine Met.ofW (cc := cX4_counted) (maxL := 5) (ret := (some .int)) (by decide) rfl ?_
  intro p e s m args below meth c s₁ B hml hv
  obtain ⟨rfl, hsz, hP, hE, hD0⟩ := hv
  have hx := B.exec
  have hb := B.bytes
  have hr := B.returns
  have hts := atoms_spec (ws := wsX4_counted) B.pre
  have hown : s.vm.findClass RX4 = some m.cls := findClass_of_methodNamed B.named
  have hlocks := B.notSynchronized
  have hK := hE.1
  subst hsz
  have hD := hD0.self (sz := s.heap.size)
  generalize hAe : va_A ((wM G x (a 0) s2 r) ++ (wT G a (x 0) t)) s.heap.size = A at hD ⊢
  have hA : ∀ q : Nat, s.heap.size ≤ q → A q := fun q h => by rw [← hAe]; exact Or.inr h
  have hS : va_S A s.heap s.heap [] := va_S.rf
  have hl := lv_entry ([.ref (x 0), .int (nI w)]) (n := 5) (Nat.le_of_ble_eq_true rfl)
  rw [lg_entry_eq]
  generalize (lg_sl ([.ref (x 0), .int (nI w)]) ++ List.replicate (5 - (lg_sl ([.ref (x 0), .int (nI w)])).length) Slot.unset).toArray = ls at hl ⊢
  have hl : lv_has ls 5 [(0, .ref (x 0)), (1, .int (nI w))] := hl
  refine lv_iconst (v := 0) hx hb dX4_counted_0 (by decide) ?_
  refine lv_istore_n (lv' := [(2, .int 0), (0, .ref (x 0)), (1, .int (nI w))]) hx hb dX4_counted_1 rfl hl (by decide) rfl (fun ls hl => ?_)
  refine lv_iconst (v := 0) hx hb dX4_counted_2 (by decide) ?_
  refine lv_istore_n (lv' := [(3, .int 0), (2, .int 0), (0, .ref (x 0)), (1, .int (nI w))]) hx hb dX4_counted_3 rfl hl (by decide) rfl (fun ls hl => ?_)
  refine lv_iconst (v := 0) hx hb dX4_counted_4 (by decide) ?_
  refine lv_istore (lv' := [(4, .int 0), (3, .int 0), (2, .int 0), (0, .ref (x 0)), (1, .int (nI w))]) hx hb dX4_counted_5 hl (by decide) rfl (fun ls hl => ?_)
  have J7 : ∀ (x2 : Int32), (x2 = gh_sm (t 4) 0) → ∀ (H : Heap) (locs : List Loc), va_P G.1 vwCl ((wM G x (a 0) s2 r) ++ (wT G a (x 0) t)) H → va_D A ((wM G x (a 0) s2 r) ++ (wT G a (x 0) t)) → va_S A s.heap H locs → ∀ (ls : Array Slot), lv_has ls 5 [(0, .ref (x 0)), (1, .int (nI w)), (2, .int x2), (3, .int 0), (4, .int (nI 0))] → W p l e (headSpec wsX4_counted ({ frames := 4, cells := 1, slots := 9, locals := 88 } : Room)).room s m ([.ref (x 0), .int (nI w)] : List Value).toArray below meth c H locs 0 0 (MQ below (va_Qi (fun (r9 : Int32) (_ : Unit) => r9 = gm_cl r t n nn w) (fun _ t9 => va_P G.1 vwCl ((wM G x (a 0) s2 r) ++ (wT G a (x 0) t)) t9.heap) A) ([.ref (x 0), .int (nI w)] : List Value).toArray s 1 9 A) (F0 m 7 ls []) := by
    refine gh_loop (n := 4) (i0 := 0) (Nat.zero_le _) (P := fun i => ∀ (x2 : Int32), (x2 = gh_sm (t 4) i) → ∀ (H : Heap) (locs : List Loc), va_P G.1 vwCl ((wM G x (a 0) s2 r) ++ (wT G a (x 0) t)) H → va_D A ((wM G x (a 0) s2 r) ++ (wT G a (x 0) t)) → va_S A s.heap H locs → ∀ (ls : Array Slot), lv_has ls 5 [(0, .ref (x 0)), (1, .int (nI w)), (2, .int x2), (3, .int 0), (4, .int (nI i))] → W p l e (headSpec wsX4_counted ({ frames := 4, cells := 1, slots := 9, locals := 88 } : Room)).room s m ([.ref (x 0), .int (nI w)] : List Value).toArray below meth c H locs 0 0 (MQ below (va_Qi (fun (r9 : Int32) (_ : Unit) => r9 = gm_cl r t n nn w) (fun _ t9 => va_P G.1 vwCl ((wM G x (a 0) s2 r) ++ (wT G a (x 0) t)) t9.heap) A) ([.ref (x 0), .int (nI w)] : List Value).toArray s 1 9 A) (F0 m 7 ls [])) ?_ ?_
    · skip
      intro x2 e2 H locs hP hD hS ls hl
      subst e2
      refine lv_iload hx hb dX4_counted_7 (lv_at hl 4 rfl) ?_
      refine lv_iconst (v := 4) hx hb dX4_counted_9 (by decide) ?_
      refine lv_icmp_ge (tgt := 32) hx hb dX4_counted_10 (by decide) (fun c_1 => ?_) (fun c_1 => absurd (nI_le (Nat.le_refl _) (by decide)) c_1)
      refine lv_iconst (v := 0) hx hb dX4_counted_32 (by decide) ?_
      refine lv_istore (lv' := [(4, .int 0), (0, .ref (x 0)), (1, .int (nI w)), (2, .int (gh_sm (t 4) 4)), (3, .int 0)]) hx hb dX4_counted_33 hl (by decide) rfl (fun ls hl => ?_)
      have J35 : ∀ (x3 : Int32), (x3 = gh_sm (fun i => gm_an r t i n) 0) → ∀ (H : Heap) (locs : List Loc), va_P G.1 vwCl ((wM G x (a 0) s2 r) ++ (wT G a (x 0) t)) H → va_D A ((wM G x (a 0) s2 r) ++ (wT G a (x 0) t)) → va_S A s.heap H locs → ∀ (ls : Array Slot), lv_has ls 5 [(0, .ref (x 0)), (1, .int (nI w)), (2, .int (gh_sm (t 4) 4)), (3, .int x3), (4, .int (nI 0))] → W p l e (headSpec wsX4_counted ({ frames := 4, cells := 1, slots := 9, locals := 88 } : Room)).room s m ([.ref (x 0), .int (nI w)] : List Value).toArray below meth c H locs 0 0 (MQ below (va_Qi (fun (r9 : Int32) (_ : Unit) => r9 = gm_cl r t n nn w) (fun _ t9 => va_P G.1 vwCl ((wM G x (a 0) s2 r) ++ (wT G a (x 0) t)) t9.heap) A) ([.ref (x 0), .int (nI w)] : List Value).toArray s 1 9 A) (F0 m 35 ls []) := by
        refine gh_loop (n := n) (i0 := 0) (Nat.zero_le _) (P := fun i => ∀ (x3 : Int32), (x3 = gh_sm (fun i => gm_an r t i n) i) → ∀ (H : Heap) (locs : List Loc), va_P G.1 vwCl ((wM G x (a 0) s2 r) ++ (wT G a (x 0) t)) H → va_D A ((wM G x (a 0) s2 r) ++ (wT G a (x 0) t)) → va_S A s.heap H locs → ∀ (ls : Array Slot), lv_has ls 5 [(0, .ref (x 0)), (1, .int (nI w)), (2, .int (gh_sm (t 4) 4)), (3, .int x3), (4, .int (nI i))] → W p l e (headSpec wsX4_counted ({ frames := 4, cells := 1, slots := 9, locals := 88 } : Room)).room s m ([.ref (x 0), .int (nI w)] : List Value).toArray below meth c H locs 0 0 (MQ below (va_Qi (fun (r9 : Int32) (_ : Unit) => r9 = gm_cl r t n nn w) (fun _ t9 => va_P G.1 vwCl ((wM G x (a 0) s2 r) ++ (wT G a (x 0) t)) t9.heap) A) ([.ref (x 0), .int (nI w)] : List Value).toArray s 1 9 A) (F0 m 35 ls [])) ?_ ?_
        · skip
          intro x3 e3 H locs hP hD hS ls hl
          subst e3
          refine lv_iload hx hb dX4_counted_35 (lv_at hl 4 rfl) ?_
          refine lv_aload_n hx hb dX4_counted_37 rfl (lv_at hl 0 rfl) ?_
          refine va_get (D := G.1) (ci := 4) (v := .int (r 4 0)) (C := RX4) (T := TX4) (N := 9) hx hb hts (fun w9 h9 => List.mem_cons_of_mem _ (List.mem_append_left _ (List.mem_append_right _ h9))) hown hK hP 0 rfl rfl 4 (by decide) (hts (.fieldLink RX4 38 "GlassHarpModel" "glasses" "I") (List.mem_of_getElem? (i := 2) rfl)) (fun _ h9 => h9) rfl dX4_counted_38 ?_
          refine gh_vv (y := nI n) (hn) ?_
          refine lv_icmp_ge (tgt := 59) hx hb dX4_counted_41 (by decide) (fun c_2 => ?_) (fun c_2 => absurd (nI_le (Nat.le_refl _) (Nat.lt_of_le_of_lt hn16 (by decide))) c_2)
          refine lv_bipush (v := 9) hx hb dX4_counted_59 (by decide) ?_
          refine gh_na hx hb (hts (.arrayClass .int) (List.mem_of_getElem? (i := 3) rfl)) hK hP hD hS hA 9 (rfl) (by decide) (Nat.le_of_ble_eq_true rfl) (Nat.le_of_ble_eq_true rfl) dX4_counted_61 (fun q_3 H hP hD hS => ?_)
          have hP : va_P G.1 vwCl ((wM G x (a 0) s2 r) ++ (wT G a (x 0) t) ++ ([(q_3, .inl (G.2.1, 9, .inl ((fun _ => 0))))])) H := hP
          have hD : va_D A ((wM G x (a 0) s2 r) ++ (wT G a (x 0) t) ++ ([(q_3, .inl (G.2.1, 9, .inl ((fun _ => 0))))])) := hD
          refine lv_dup hx hb dX4_counted_63 rfl ?_
          refine lv_iconst (v := 0) hx hb dX4_counted_64 (by decide) ?_
          refine lv_aload_n hx hb dX4_counted_65 rfl (lv_at hl 0 rfl) ?_
          refine va_get (D := G.1) (ci := 4) (v := .ref (a 0)) (C := RX4) (T := TX4) (N := 9) hx hb hts (fun w9 h9 => List.mem_cons_of_mem _ (List.mem_append_left _ (List.mem_append_right _ h9))) hown hK hP 0 rfl rfl 7 (by decide) (hts (.fieldLink RX4 28 "GlassHarpModel" "s" "LGlassHarpModel$State;") (List.mem_of_getElem? (i := 1) rfl)) (fun _ h9 => h9) rfl dX4_counted_66 ?_
          refine va_getN (D := G.1) (ci := 3) (v := .int (t 0 0)) (C := RX3) (T := TX3) (N := 12) hx hb hts (fun w9 h9 => List.mem_cons_of_mem _ (List.mem_append_right _ h9)) hown hK hP 4 rfl rfl 0 (by decide) (va_Nw.use rfl (hE.2.2 (RX4, 106, "GlassHarpModel$State", "beat", "I", RX4) (List.mem_of_getElem? (i := 22) rfl))) (fun _ h9 => h9) rfl dX4_counted_69 ?_
          refine gh_is (f := (fun _ => 0)) (ws' := (wM G x (a 0) s2 r) ++ (wT G a (x 0) t) ++ ([(q_3, .inl (G.2.1, 9, .inl (upd (fun _ => 0) 0 (t 0 0))))])) hx hb hK hP hD hS 11 0 rfl rfl 0 (rfl) (by decide) (by decide) dX4_counted_72 rfl (fun H locs hP hD hS => ?_)
          refine lv_dup hx hb dX4_counted_73 rfl ?_
          refine lv_iconst (v := 1) hx hb dX4_counted_74 (by decide) ?_
          refine lv_aload_n hx hb dX4_counted_75 rfl (lv_at hl 0 rfl) ?_
          refine va_get (D := G.1) (ci := 4) (v := .int (r 4 0)) (C := RX4) (T := TX4) (N := 9) hx hb hts (fun w9 h9 => List.mem_cons_of_mem _ (List.mem_append_left _ (List.mem_append_right _ h9))) hown hK hP 0 rfl rfl 4 (by decide) (hts (.fieldLink RX4 38 "GlassHarpModel" "glasses" "I") (List.mem_of_getElem? (i := 2) rfl)) (fun _ h9 => h9) rfl dX4_counted_76 ?_
          refine gh_vv (y := nI n) (hn) ?_
          refine gh_is (f := upd (fun _ => 0) 0 (t 0 0)) (ws' := (wM G x (a 0) s2 r) ++ (wT G a (x 0) t) ++ ([(q_3, .inl (G.2.1, 9, .inl (upd (upd (fun _ => 0) 0 (t 0 0)) 1 (nI n))))])) hx hb hK hP hD hS 11 0 rfl rfl 1 (rfl) (by decide) (by decide) dX4_counted_79 rfl (fun H locs hP hD hS => ?_)
          refine lv_dup hx hb dX4_counted_80 rfl ?_
          refine lv_iconst (v := 2) hx hb dX4_counted_81 (by decide) ?_
          refine lv_aload_n hx hb dX4_counted_82 rfl (lv_at hl 0 rfl) ?_
          refine va_get (D := G.1) (ci := 4) (v := .ref (a 0)) (C := RX4) (T := TX4) (N := 9) hx hb hts (fun w9 h9 => List.mem_cons_of_mem _ (List.mem_append_left _ (List.mem_append_right _ h9))) hown hK hP 0 rfl rfl 7 (by decide) (hts (.fieldLink RX4 28 "GlassHarpModel" "s" "LGlassHarpModel$State;") (List.mem_of_getElem? (i := 1) rfl)) (fun _ h9 => h9) rfl dX4_counted_83 ?_
          refine gh_ci (va_runV (As := []) (rest := [.int 2, .ref q_3, .ref q_3]) ⟨hx, hb, hml, hown, hts⟩ (c_X3_cracked l G a t x (a 0) s2 r n (hn) (hn16)) (cwV 0 hts gX4_counted_X3_cracked rfl rfl rfl ⟨rfl, hdS_X3_cracked⟩ ⟨Nat.le_of_ble_eq_true rfl, Nat.le_of_ble_eq_true rfl⟩) (gh_rV hE (hP.sub (ws' := (wT G a (x 0) t) ++ (wM G x (a 0) s2 r)) [4, 5, 6, 7, 8, 9, 10, 0, 1, 2, 3] rfl) (ci := 3) (q0 := 0) rfl rfl) rfl rfl hl.1 rfl (lv_room (Nat.le_of_ble_eq_true rfl)) dX4_counted_86 ⟨Nat.le_of_ble_eq_true rfl, Nat.le_of_ble_eq_true rfl⟩) ?_
          refine gh_is (f := upd (upd (fun _ => 0) 0 (t 0 0)) 1 (nI n)) (ws' := (wM G x (a 0) s2 r) ++ (wT G a (x 0) t) ++ ([(q_3, .inl (G.2.1, 9, .inl (upd (upd (upd (fun _ => 0) 0 (t 0 0)) 1 (nI n)) 2 (gh_sm (t 7) n))))])) hx hb hK hP hD hS 11 0 rfl rfl 2 (rfl) (by decide) (by decide) dX4_counted_89 rfl (fun H locs hP hD hS => ?_)
          refine lv_dup hx hb dX4_counted_90 rfl ?_
          refine lv_iconst (v := 3) hx hb dX4_counted_91 (by decide) ?_
          refine lv_aload_n hx hb dX4_counted_92 rfl (lv_at hl 0 rfl) ?_
          refine va_get (D := G.1) (ci := 4) (v := .int (r 2 0)) (C := RX4) (T := TX4) (N := 9) hx hb hts (fun w9 h9 => List.mem_cons_of_mem _ (List.mem_append_left _ (List.mem_append_right _ h9))) hown hK hP 0 rfl rfl 2 (by decide) (hts (.fieldLink RX4 91 "GlassHarpModel" "notes" "I") (List.mem_of_getElem? (i := 4) rfl)) (fun _ h9 => h9) rfl dX4_counted_93 ?_
          refine gh_vv (y := nI nn) (hz) ?_
          refine gh_is (f := upd (upd (upd (fun _ => 0) 0 (t 0 0)) 1 (nI n)) 2 (gh_sm (t 7) n)) (ws' := (wM G x (a 0) s2 r) ++ (wT G a (x 0) t) ++ ([(q_3, .inl (G.2.1, 9, .inl (upd (upd (upd (upd (fun _ => 0) 0 (t 0 0)) 1 (nI n)) 2 (gh_sm (t 7) n)) 3 (nI nn))))])) hx hb hK hP hD hS 11 0 rfl rfl 3 (rfl) (by decide) (by decide) dX4_counted_96 rfl (fun H locs hP hD hS => ?_)
          refine lv_dup hx hb dX4_counted_97 rfl ?_
          refine lv_iconst (v := 4) hx hb dX4_counted_98 (by decide) ?_
          refine lv_aload_n hx hb dX4_counted_99 rfl (lv_at hl 0 rfl) ?_
          refine va_get (D := G.1) (ci := 4) (v := .ref (a 0)) (C := RX4) (T := TX4) (N := 9) hx hb hts (fun w9 h9 => List.mem_cons_of_mem _ (List.mem_append_left _ (List.mem_append_right _ h9))) hown hK hP 0 rfl rfl 7 (by decide) (hts (.fieldLink RX4 28 "GlassHarpModel" "s" "LGlassHarpModel$State;") (List.mem_of_getElem? (i := 1) rfl)) (fun _ h9 => h9) rfl dX4_counted_100 ?_
          refine va_getN (D := G.1) (ci := 3) (v := .int (t 1 0)) (C := RX3) (T := TX3) (N := 12) hx hb hts (fun w9 h9 => List.mem_cons_of_mem _ (List.mem_append_right _ h9)) hown hK hP 4 rfl rfl 1 (by decide) (va_Nw.use rfl (hE.2.2 (RX4, 100, "GlassHarpModel$State", "played", "I", RX4) (List.mem_of_getElem? (i := 23) rfl))) (fun _ h9 => h9) rfl dX4_counted_103 ?_
          refine gh_is (f := upd (upd (upd (upd (fun _ => 0) 0 (t 0 0)) 1 (nI n)) 2 (gh_sm (t 7) n)) 3 (nI nn)) (ws' := (wM G x (a 0) s2 r) ++ (wT G a (x 0) t) ++ ([(q_3, .inl (G.2.1, 9, .inl (upd (upd (upd (upd (upd (fun _ => 0) 0 (t 0 0)) 1 (nI n)) 2 (gh_sm (t 7) n)) 3 (nI nn)) 4 (t 1 0))))])) hx hb hK hP hD hS 11 0 rfl rfl 4 (rfl) (by decide) (by decide) dX4_counted_106 rfl (fun H locs hP hD hS => ?_)
          refine lv_dup hx hb dX4_counted_107 rfl ?_
          refine lv_iconst (v := 5) hx hb dX4_counted_108 (by decide) ?_
          refine lv_aload_n hx hb dX4_counted_109 rfl (lv_at hl 0 rfl) ?_
          refine va_get (D := G.1) (ci := 4) (v := .ref (a 0)) (C := RX4) (T := TX4) (N := 9) hx hb hts (fun w9 h9 => List.mem_cons_of_mem _ (List.mem_append_left _ (List.mem_append_right _ h9))) hown hK hP 0 rfl rfl 7 (by decide) (hts (.fieldLink RX4 28 "GlassHarpModel" "s" "LGlassHarpModel$State;") (List.mem_of_getElem? (i := 1) rfl)) (fun _ h9 => h9) rfl dX4_counted_110 ?_
          refine va_getN (D := G.1) (ci := 3) (v := .int (t 2 0)) (C := RX3) (T := TX3) (N := 12) hx hb hts (fun w9 h9 => List.mem_cons_of_mem _ (List.mem_append_right _ h9)) hown hK hP 4 rfl rfl 2 (by decide) (va_Nw.use rfl (hE.2.2 (RX4, 113, "GlassHarpModel$State", "tuned", "I", RX4) (List.mem_of_getElem? (i := 24) rfl))) (fun _ h9 => h9) rfl dX4_counted_113 ?_
          refine gh_is (f := upd (upd (upd (upd (upd (fun _ => 0) 0 (t 0 0)) 1 (nI n)) 2 (gh_sm (t 7) n)) 3 (nI nn)) 4 (t 1 0)) (ws' := (wM G x (a 0) s2 r) ++ (wT G a (x 0) t) ++ ([(q_3, .inl (G.2.1, 9, .inl (upd (upd (upd (upd (upd (upd (fun _ => 0) 0 (t 0 0)) 1 (nI n)) 2 (gh_sm (t 7) n)) 3 (nI nn)) 4 (t 1 0)) 5 (t 2 0))))])) hx hb hK hP hD hS 11 0 rfl rfl 5 (rfl) (by decide) (by decide) dX4_counted_116 rfl (fun H locs hP hD hS => ?_)
          refine lv_dup hx hb dX4_counted_117 rfl ?_
          refine lv_bipush (v := 6) hx hb dX4_counted_118 (by decide) ?_
          refine lv_aload_n hx hb dX4_counted_120 rfl (lv_at hl 0 rfl) ?_
          refine va_get (D := G.1) (ci := 4) (v := .ref (a 0)) (C := RX4) (T := TX4) (N := 9) hx hb hts (fun w9 h9 => List.mem_cons_of_mem _ (List.mem_append_left _ (List.mem_append_right _ h9))) hown hK hP 0 rfl rfl 7 (by decide) (hts (.fieldLink RX4 28 "GlassHarpModel" "s" "LGlassHarpModel$State;") (List.mem_of_getElem? (i := 1) rfl)) (fun _ h9 => h9) rfl dX4_counted_121 ?_
          refine va_getN (D := G.1) (ci := 3) (v := .int (t 3 0)) (C := RX3) (T := TX3) (N := 12) hx hb hts (fun w9 h9 => List.mem_cons_of_mem _ (List.mem_append_right _ h9)) hown hK hP 4 rfl rfl 3 (by decide) (va_Nw.use rfl (hE.2.2 (RX4, 116, "GlassHarpModel$State", "missed", "I", RX4) (List.mem_of_getElem? (i := 25) rfl))) (fun _ h9 => h9) rfl dX4_counted_124 ?_
          refine gh_is (f := upd (upd (upd (upd (upd (upd (fun _ => 0) 0 (t 0 0)) 1 (nI n)) 2 (gh_sm (t 7) n)) 3 (nI nn)) 4 (t 1 0)) 5 (t 2 0)) (ws' := (wM G x (a 0) s2 r) ++ (wT G a (x 0) t) ++ ([(q_3, .inl (G.2.1, 9, .inl (upd (upd (upd (upd (upd (upd (upd (fun _ => 0) 0 (t 0 0)) 1 (nI n)) 2 (gh_sm (t 7) n)) 3 (nI nn)) 4 (t 1 0)) 5 (t 2 0)) 6 (t 3 0))))])) hx hb hK hP hD hS 11 0 rfl rfl 6 (rfl) (by decide) (by decide) dX4_counted_127 rfl (fun H locs hP hD hS => ?_)
          refine lv_dup hx hb dX4_counted_128 rfl ?_
          refine lv_bipush (v := 7) hx hb dX4_counted_129 (by decide) ?_
          refine lv_iload_n hx hb dX4_counted_131 rfl (lv_at hl 2 rfl) ?_
          refine gh_is (f := upd (upd (upd (upd (upd (upd (upd (fun _ => 0) 0 (t 0 0)) 1 (nI n)) 2 (gh_sm (t 7) n)) 3 (nI nn)) 4 (t 1 0)) 5 (t 2 0)) 6 (t 3 0)) (ws' := (wM G x (a 0) s2 r) ++ (wT G a (x 0) t) ++ ([(q_3, .inl (G.2.1, 9, .inl (upd (upd (upd (upd (upd (upd (upd (upd (fun _ => 0) 0 (t 0 0)) 1 (nI n)) 2 (gh_sm (t 7) n)) 3 (nI nn)) 4 (t 1 0)) 5 (t 2 0)) 6 (t 3 0)) 7 (gh_sm (t 4) 4))))])) hx hb hK hP hD hS 11 0 rfl rfl 7 (rfl) (by decide) (by decide) dX4_counted_132 rfl (fun H locs hP hD hS => ?_)
          refine lv_dup hx hb dX4_counted_133 rfl ?_
          refine lv_bipush (v := 8) hx hb dX4_counted_134 (by decide) ?_
          refine lv_iload_n hx hb dX4_counted_136 rfl (lv_at hl 3 rfl) ?_
          refine lv_iconst (v := 2) hx hb dX4_counted_137 (by decide) ?_
          refine lv_idiv hx hb dX4_counted_138 (by decide) ?_
          refine gh_is (f := upd (upd (upd (upd (upd (upd (upd (upd (fun _ => 0) 0 (t 0 0)) 1 (nI n)) 2 (gh_sm (t 7) n)) 3 (nI nn)) 4 (t 1 0)) 5 (t 2 0)) 6 (t 3 0)) 7 (gh_sm (t 4) 4)) (ws' := (wM G x (a 0) s2 r) ++ (wT G a (x 0) t) ++ ([(q_3, .inl (G.2.1, 9, .inl (upd (upd (upd (upd (upd (upd (upd (upd (upd (fun _ => 0) 0 (t 0 0)) 1 (nI n)) 2 (gh_sm (t 7) n)) 3 (nI nn)) 4 (t 1 0)) 5 (t 2 0)) 6 (t 3 0)) 7 (gh_sm (t 4) 4)) 8 ((gh_sm (fun i => gm_an r t i n) n) / 2))))])) hx hb hK hP hD hS 11 0 rfl rfl 8 (rfl) (by decide) (by decide) dX4_counted_139 rfl (fun H locs hP hD hS => ?_)
          refine lv_astore (lv' := [(4, .ref q_3), (0, .ref (x 0)), (1, .int (nI w)), (2, .int (gh_sm (t 4) 4)), (3, .int (gh_sm (fun i => gm_an r t i n) n))]) hx hb dX4_counted_140 hl (by decide) rfl (fun ls hl => ?_)
          refine lv_aload hx hb dX4_counted_142 (lv_at hl 0 rfl) ?_
          refine lv_iload_n hx hb dX4_counted_144 rfl (lv_at hl 2 rfl) ?_
          refine gh_ia (f := upd (upd (upd (upd (upd (upd (upd (upd (upd (fun _ => 0) 0 (t 0 0)) 1 (nI n)) 2 (gh_sm (t 7) n)) 3 (nI nn)) 4 (t 1 0)) 5 (t 2 0)) 6 (t 3 0)) 7 (gh_sm (t 4) 4)) 8 ((gh_sm (fun i => gm_an r t i n) n) / 2)) hx hb hK hP 11 0 rfl rfl w (rfl) (hw) (by decide) dX4_counted_145 ?_
          have hP := hP.sub (ws' := (wM G x (a 0) s2 r) ++ (wT G a (x 0) t)) [0, 1, 2, 3, 4, 5, 6, 7, 8, 9, 10] rfl
          have hP9 := hP
          exact W.iret (v := (upd (upd (upd (upd (upd (upd (upd (upd (upd (fun _ => 0) 0 (t 0 0)) 1 (nI n)) 2 (gh_sm (t 7) n)) 3 (nI nn)) 4 (t 1 0)) 5 (t 2 0)) 6 (t 3 0)) 7 (gh_sm (t 4) 4)) 8 ((gh_sm (fun i => gm_an r t i n) n) / 2)) w) hx hb hr (fun t9 ht hW => ⟨⟨(upd (upd (upd (upd (upd (upd (upd (upd (upd (fun _ => 0) 0 (t 0 0)) 1 (nI n)) 2 (gh_sm (t 7) n)) 3 (nI nn)) 4 (t 1 0)) 5 (t 2 0)) 6 (t 3 0)) 7 (gh_sm (t 4) 4)) 8 ((gh_sm (fun i => gm_an r t i n) n) / 2)) w, (), rfl, by first | (simp only [gm_cl, c_1, c_2, ↓reduceIte, if_true, if_false]; done) | (simp only [gm_cl]; simp only [c_1, c_2, ↓reduceIte, if_true, if_false]; done) | (simp [gm_cl, c_1, c_2, ↓reduceIte, if_true, if_false]; done), gh_hp hP9 ht⟩, hS.F ht⟩) hS.2.2 dX4_counted_146
        · intro i hi_lo hi ih
          intro x3 e3 H locs hP hD hS ls hl
          subst e3
          refine lv_iload hx hb dX4_counted_35 (lv_at hl 4 rfl) ?_
          refine lv_aload_n hx hb dX4_counted_37 rfl (lv_at hl 0 rfl) ?_
          refine va_get (D := G.1) (ci := 4) (v := .int (r 4 0)) (C := RX4) (T := TX4) (N := 9) hx hb hts (fun w9 h9 => List.mem_cons_of_mem _ (List.mem_append_left _ (List.mem_append_right _ h9))) hown hK hP 0 rfl rfl 4 (by decide) (hts (.fieldLink RX4 38 "GlassHarpModel" "glasses" "I") (List.mem_of_getElem? (i := 2) rfl)) (fun _ h9 => h9) rfl dX4_counted_38 ?_
          refine gh_vv (y := nI n) (hn) ?_
          refine lv_icmp_ge (tgt := 59) hx hb dX4_counted_41 (by decide) (fun c_4 => absurd c_4 (nI_ge hi (Nat.lt_of_le_of_lt hn16 (by decide)))) (fun c_4 => ?_)
          refine lv_iload_n hx hb dX4_counted_44 rfl (lv_at hl 3 rfl) ?_
          refine lv_aload_n hx hb dX4_counted_45 rfl (lv_at hl 0 rfl) ?_
          refine lv_iload hx hb dX4_counted_46 (lv_at hl 4 rfl) ?_
          refine gh_ci (va_runV (As := [.int (nI i)]) (rest := [.int (gh_sm (fun i => gm_an r t i n) i)]) ⟨hx, hb, hml, hown, hts⟩ (c_X4_against l G x r a t s2 n i (hn) (hn16) (hsz) (hi)) (cwV 1 hts gX4_counted_X4_against rfl rfl rfl ⟨rfl, hdS_X4_against⟩ ⟨Nat.le_of_ble_eq_true rfl, Nat.le_of_ble_eq_true rfl⟩) (gh_rV hE hP (ci := 4) (q0 := 0) rfl rfl) rfl rfl hl.1 rfl (lv_room (Nat.le_of_ble_eq_true rfl)) dX4_counted_48 ⟨Nat.le_of_ble_eq_true rfl, Nat.le_of_ble_eq_true rfl⟩) ?_
          refine lv_iadd hx hb dX4_counted_51 ?_
          refine lv_istore_n (lv' := [(3, .int ((gh_sm (fun i => gm_an r t i n) i) + (gm_an r t i n))), (0, .ref (x 0)), (1, .int (nI w)), (2, .int (gh_sm (t 4) 4)), (4, .int (nI i))]) hx hb dX4_counted_52 rfl hl (by decide) rfl (fun ls hl => ?_)
          refine lv_iinc (v := nI (i + 1)) (lv' := [(4, .int (nI (i + 1))), (3, .int ((gh_sm (fun i => gm_an r t i n) i) + (gm_an r t i n))), (0, .ref (x 0)), (1, .int (nI w)), (2, .int (gh_sm (t 4) 4))]) hx hb dX4_counted_53 hl (k := 4) rfl (nI_1 i) (by decide) rfl (fun ls hl => ?_)
          refine lv_goto (tgt := 35) hx hb dX4_counted_56 (by decide) ?_
          exact ih ((gh_sm (fun i => gm_an r t i n) i) + (gm_an r t i n)) (by first | (simp only [gh_sm, c_1, c_4, ↓reduceIte, if_true, if_false]; done) | (simp only [gh_sm]; simp only [c_1, c_4, ↓reduceIte, if_true, if_false]; done) | (simp [gh_sm, c_1, c_4, ↓reduceIte, if_true, if_false]; done)) _ _ hP hD hS _ (lv_sub hl [2, 3, 4, 1, 0] rfl)
      exact J35 0 (by first | (simp only [gh_sm, c_1, ↓reduceIte, if_true, if_false]; done) | (simp only [gh_sm]; simp only [c_1, ↓reduceIte, if_true, if_false]; done) | (simp [gh_sm, c_1, ↓reduceIte, if_true, if_false]; done)) _ _ hP hD hS _ (lv_sub hl [1, 2, 3, 4, 0] rfl)
    · intro i hi_lo hi ih
      intro x2 e2 H locs hP hD hS ls hl
      subst e2
      refine lv_iload hx hb dX4_counted_7 (lv_at hl 4 rfl) ?_
      refine lv_iconst (v := 4) hx hb dX4_counted_9 (by decide) ?_
      refine lv_icmp_ge (tgt := 32) hx hb dX4_counted_10 (by decide) (fun c_5 => absurd c_5 (nI_ge hi (by decide))) (fun c_5 => ?_)
      refine lv_iload_n hx hb dX4_counted_13 rfl (lv_at hl 2 rfl) ?_
      refine lv_aload_n hx hb dX4_counted_14 rfl (lv_at hl 0 rfl) ?_
      refine va_get (D := G.1) (ci := 4) (v := .ref (a 0)) (C := RX4) (T := TX4) (N := 9) hx hb hts (fun w9 h9 => List.mem_cons_of_mem _ (List.mem_append_left _ (List.mem_append_right _ h9))) hown hK hP 0 rfl rfl 7 (by decide) (hts (.fieldLink RX4 28 "GlassHarpModel" "s" "LGlassHarpModel$State;") (List.mem_of_getElem? (i := 1) rfl)) (fun _ h9 => h9) rfl dX4_counted_15 ?_
      refine va_getN (D := G.1) (ci := 3) (v := .ref (a 4)) (C := RX3) (T := TX3) (N := 12) hx hb hts (fun w9 h9 => List.mem_cons_of_mem _ (List.mem_append_right _ h9)) hown hK hP 4 rfl rfl 4 (by decide) (va_Nw.use rfl (hE.2.2 (RX4, 85, "GlassHarpModel$State", "air", "[I", RX4) (List.mem_of_getElem? (i := 26) rfl))) (fun _ h9 => h9) rfl dX4_counted_18 ?_
      refine lv_iload hx hb dX4_counted_21 (lv_at hl 4 rfl) ?_
      refine gh_ia (f := t 4) hx hb hK hP 5 0 rfl rfl i (rfl) (by omega) (by decide) dX4_counted_23 ?_
      refine lv_iadd hx hb dX4_counted_24 ?_
      refine lv_istore_n (lv' := [(2, .int ((gh_sm (t 4) i) + (t 4 i))), (0, .ref (x 0)), (1, .int (nI w)), (3, .int 0), (4, .int (nI i))]) hx hb dX4_counted_25 rfl hl (by decide) rfl (fun ls hl => ?_)
      refine lv_iinc (v := nI (i + 1)) (lv' := [(4, .int (nI (i + 1))), (2, .int ((gh_sm (t 4) i) + (t 4 i))), (0, .ref (x 0)), (1, .int (nI w)), (3, .int 0)]) hx hb dX4_counted_26 hl (k := 4) rfl (nI_1 i) (by decide) rfl (fun ls hl => ?_)
      refine lv_goto (tgt := 7) hx hb dX4_counted_29 (by decide) ?_
      exact ih ((gh_sm (t 4) i) + (t 4 i)) (by first | (simp only [gh_sm, c_5, ↓reduceIte, if_true, if_false]; done) | (simp only [gh_sm]; simp only [c_5, ↓reduceIte, if_true, if_false]; done) | (simp [gh_sm, c_5, ↓reduceIte, if_true, if_false]; done)) _ _ hP hD hS _ (lv_sub hl [2, 3, 1, 4, 0] rfl)
  exact J7 0 (by first | (simp only [gh_sm, ↓reduceIte, if_true, if_false]; done) | (simp only [gh_sm, ↓reduceIte, if_true, if_false]; rfl) | (simp [gh_sm, ↓reduceIte, if_true, if_false]; done)) _ _ hP hD hS _ (lv_sub hl [3, 4, 2, 1, 0] rfl)
set_option maxHeartbeats 4000000 in
set_option maxRecDepth 100000 in
theorem c_X4_count (l : Launch) (G : gh_G) (sz : Nat) (x : Nat → Nat) (r : gh_B) (a : Nat → Nat) (t : gh_B) (s2 : Nat) (n : Nat) (nn : Nat) (y : Int32) (hn : r 4 0 = nI n) (hn16 : n ≤ 16) (hsz : ∀ j : Nat, j < n → ¬ 4 * r 6 j = 0) (hz : r 2 0 = nI nn) (hz32 : nn ≤ 32) : Met l yX4_count wsX4_count ({ frames := 5, cells := 1, slots := 9, locals := 112 } : Room) (gh_w G [.ref (x 0), .int y] ((wM G x (a 0) s2 r) ++ (wT G a (x 0) t)) sz) (va_Qi (fun (r9 : Int32) (_ : Unit) => r9 = gm_k1 0 (gm_cl (gm_z r) t n nn y.toNatClampNeg) (gh_iw y 0 8)) (fun _ t9 => va_P G.1 vwCl ((wM G x (a 0) s2 (gm_k1 (gm_no r 1) (gm_z r) (gh_iw y 0 8))) ++ (wT G a (x 0) t)) t9.heap) (va_A ((wM G x (a 0) s2 r) ++ (wT G a (x 0) t)) sz)) 1 9 (va_A ((wM G x (a 0) s2 r) ++ (wT G a (x 0) t)) sz) := by
  refine Met.ofW (cc := cX4_count) (maxL := 2) (ret := (some .int)) (by decide) rfl ?_
  intro p e s m args below meth c s₁ B hml hv
  obtain ⟨rfl, hsz, hP, hE, hD0⟩ := hv
  have hx := B.exec
  have hb := B.bytes
  have hr := B.returns
  have hts := atoms_spec (ws := wsX4_count) B.pre
  have hown : s.vm.findClass RX4 = some m.cls := findClass_of_methodNamed B.named
  have hlocks := B.notSynchronized
  have hK := hE.1
  subst hsz
  have hD := hD0.self (sz := s.heap.size)
  generalize hAe : va_A ((wM G x (a 0) s2 r) ++ (wT G a (x 0) t)) s.heap.size = A at hD ⊢
  have hA : ∀ q : Nat, s.heap.size ≤ q → A q := fun q h => by rw [← hAe]; exact Or.inr h
  have hS : va_S A s.heap s.heap [] := va_S.rf
  have hl := lv_entry ([.ref (x 0), .int y]) (n := 2) (Nat.le_of_ble_eq_true rfl)
  rw [lg_entry_eq]
  generalize (lg_sl ([.ref (x 0), .int y]) ++ List.replicate (2 - (lg_sl ([.ref (x 0), .int y])).length) Slot.unset).toArray = ls at hl ⊢
  have hl : lv_has ls 2 [(0, .ref (x 0)), (1, .int y)] := hl
  refine lv_aload_n hx hb dX4_count_0 rfl (lv_at hl 0 rfl) ?_
  refine lv_iconst (v := 0) hx hb dX4_count_1 (by decide) ?_
  refine va_put (D := G.1) (ci := 4) (v := .int 0) (ty := .int) (C := RX4) (T := TX4) (N := 9) hx hb hts (fun w9 h9 => List.mem_cons_of_mem _ (List.mem_append_left _ (List.mem_append_right _ h9))) tyX4 tyX4_ok nmX4 hown hK hP hD hS 0 rfl rfl 0 (by decide) (hts (.fieldLink RX4 35 "GlassHarpModel" "thrown" "I") (List.mem_of_getElem? (i := 1) rfl)) (fun _ h9 => h9) rfl (tyX4_ok 0 (by decide)) rfl rfl (Nat.le_of_ble_eq_true rfl) dX4_count_2 (fun H locs hP hD hS => ?_)
  have hP : va_P G.1 vwCl ((wM G x (a 0) s2 (gh_st r 0 (fun _ => 0))) ++ (wT G a (x 0) t)) H := hP
  have hD : va_D A ((wM G x (a 0) s2 (gh_st r 0 (fun _ => 0))) ++ (wT G a (x 0) t)) := hD
  refine lv_iload_n hx hb dX4_count_5 rfl (lv_at hl 1 rfl) ?_
  refine lv_iconst (v := 0) hx hb dX4_count_6 (by decide) ?_
  refine lv_bipush (v := 8) hx hb dX4_count_7 (by decide) ?_
  refine gh_ci (va_runS (As := [.int y, .int 0, .int 8]) (rest := []) ⟨hx, hb, hml, hown, hts⟩ (c_X4_isIn l G y 0 8) (va_cwS 3 hts gX4_count_X4_isIn rfl rfl rfl hdS_X4_isIn ⟨Nat.le_of_ble_eq_true rfl, Nat.le_of_ble_eq_true rfl⟩) (gh_rS hE (fun k q h => by simp at h)) rfl rfl hl.1 rfl (lv_room (Nat.le_of_ble_eq_true rfl)) dX4_count_9 ⟨Nat.le_of_ble_eq_true rfl, Nat.le_of_ble_eq_true rfl⟩) ?_
  refine lv_if_eq (tgt := 23) hx hb dX4_count_12 (by decide) (fun c_1 => ?_) (fun c_1 => ?_)
  · skip
    refine lv_aload_n hx hb dX4_count_23 rfl (lv_at hl 0 rfl) ?_
    refine lv_iconst (v := 1) hx hb dX4_count_24 (by decide) ?_
    refine gh_cw (wr := wT G a (x 0) t) (ws' := (wM G x (a 0) s2 (gh_st (gh_st r 0 (fun _ => 0)) 0 (fun _ => 1))) ++ (wT G a (x 0) t)) (va_runV (As := [.int 1]) (rest := []) ⟨hx, hb, hml, hown, hts⟩ (c_X4_no l G H.size x (gh_st r 0 (fun _ => 0)) a t s2 1) (cwV 1 hts gX4_count_X4_no rfl rfl rfl ⟨rfl, hdS_X4_no⟩ ⟨Nat.le_of_ble_eq_true rfl, Nat.le_of_ble_eq_true rfl⟩) (gh_wV hE (hP.sub (ws' := wM G x (a 0) s2 (gh_st r 0 (fun _ => 0))) [0, 1, 2, 3] rfl) (hD.sub (ws' := wM G x (a 0) s2 (gh_st r 0 (fun _ => 0))) [0, 1, 2, 3] (by decide) rfl) (ci := 4) (q0 := 0) rfl rfl) rfl rfl hl.1 rfl (lv_room (Nat.le_of_ble_eq_true rfl)) dX4_count_25 ⟨Nat.le_of_ble_eq_true rfl, Nat.le_of_ble_eq_true rfl⟩) hP hD hS hA [0, 1, 2, 3] [4, 5, 6, 7, 8, 9, 10] [7, 8, 9, 10, 0, 1, 2, 3, 4, 5, 6] rfl rfl (by decide) (by decide) (by decide) [x 0, x 3, x 5, x 6] [x 0, x 3, x 5, x 6, a 0, a 4, a 5, a 6, a 7, a 8, a 9] rfl rfl rfl rfl rfl (fun H locs hP hD hS => ?_)
    refine W.widen (k := 1) (n := 9) (by omega) (by omega) ?_
    have hP9 : va_P G.1 vwCl ((wM G x (a 0) s2 (gm_k1 (gm_no r 1) (gm_z r) (gh_iw y 0 8))) ++ (wT G a (x 0) t)) H := by
      have e9 : gh_st (gh_st r 0 (fun _ => 0)) 0 (fun _ => 1) = gm_k1 (gm_no r 1) (gm_z r) (gh_iw y 0 8) := by first | (simp only [gm_k1, gm_no, gm_z, c_1, ↓reduceIte, if_true, if_false]; done) | (simp only [gm_k1, gm_no, gm_z]; simp only [c_1, ↓reduceIte, if_true, if_false]; done) | (simp [gm_k1, gm_no, gm_z, c_1, ↓reduceIte, if_true, if_false]; done)
      rw [← e9]
      exact hP
    exact W.iret (v := 0) hx hb hr (fun t9 ht hW => ⟨⟨0, (), rfl, by first | (simp only [gm_k1, gm_no, gm_z, c_1, ↓reduceIte, if_true, if_false]; done) | (simp only [gm_k1, gm_no, gm_z]; simp only [c_1, ↓reduceIte, if_true, if_false]; done) | (simp [gm_k1, gm_no, gm_z, c_1, ↓reduceIte, if_true, if_false]; done), gh_hp hP9 ht⟩, hS.F ht⟩) hS.2.2 dX4_count_28
  · skip
    obtain ⟨w, hw, ew⟩ := gm_i8 (k := 9) c_1 (by decide) (by decide) (by decide)
    have ewc : y.toNatClampNeg = w := by rw [ew, nI_clamp (Nat.lt_trans hw (by decide))]
    refine lv_aload_n hx hb dX4_count_15 rfl (lv_at hl 0 rfl) ?_
    refine lv_iload_n hx hb dX4_count_16 rfl (lv_at hl 1 rfl) ?_
    refine gh_vv (y := nI w) (ew) ?_
    refine gh_cw (wr := []) (ws' := (wM G x (a 0) s2 (gh_st r 0 (fun _ => 0))) ++ (wT G a (x 0) t)) (va_runV (As := [.int (nI w)]) (rest := []) ⟨hx, hb, hml, hown, hts⟩ (c_X4_counted l G H.size x (gh_st r 0 (fun _ => 0)) a t s2 n nn w (hn) (hn16) (hsz) (hz) (hz32) (hw)) (cwV 1 hts gX4_count_X4_counted rfl rfl rfl ⟨rfl, hdS_X4_counted⟩ ⟨Nat.le_of_ble_eq_true rfl, Nat.le_of_ble_eq_true rfl⟩) (gh_wV hE hP hD (ci := 4) (q0 := 0) rfl rfl) rfl rfl hl.1 rfl (lv_room (Nat.le_of_ble_eq_true rfl)) dX4_count_17 ⟨Nat.le_of_ble_eq_true rfl, Nat.le_of_ble_eq_true rfl⟩) hP hD hS hA [0, 1, 2, 3, 4, 5, 6, 7, 8, 9, 10] [] [0, 1, 2, 3, 4, 5, 6, 7, 8, 9, 10] rfl rfl (by decide) (by decide) (by decide) [x 0, x 3, x 5, x 6, a 0, a 4, a 5, a 6, a 7, a 8, a 9] [x 0, x 3, x 5, x 6, a 0, a 4, a 5, a 6, a 7, a 8, a 9] rfl rfl rfl rfl rfl (fun H locs hP hD hS => ?_)
    refine lv_goto (tgt := 28) hx hb dX4_count_20 (by decide) ?_
    have hP9 : va_P G.1 vwCl ((wM G x (a 0) s2 (gm_k1 (gm_no r 1) (gm_z r) (gh_iw y 0 8))) ++ (wT G a (x 0) t)) H := by
      have e9 : (gh_st r 0 (fun _ => 0)) = gm_k1 (gm_no r 1) (gm_z r) (gh_iw y 0 8) := by first | (simp only [gm_k1, gm_no, gm_z, c_1, ewc, ↓reduceIte, if_true, if_false]; done) | (simp only [gm_k1, gm_no, gm_z]; simp only [c_1, ewc, ↓reduceIte, if_true, if_false]; done) | (simp [gm_k1, gm_no, gm_z, c_1, ewc, ↓reduceIte, if_true, if_false]; done)
      rw [← e9]
      exact hP
    exact W.iret (v := gm_cl (gh_st r 0 (fun _ => 0)) t n nn w) hx hb hr (fun t9 ht hW => ⟨⟨gm_cl (gh_st r 0 (fun _ => 0)) t n nn w, (), rfl, by first | (simp only [gm_k1, gm_no, gm_z, c_1, ewc, ↓reduceIte, if_true, if_false]; done) | (simp only [gm_k1, gm_no, gm_z]; simp only [c_1, ewc, ↓reduceIte, if_true, if_false]; done) | (simp [gm_k1, gm_no, gm_z, c_1, ewc, ↓reduceIte, if_true, if_false]; done), gh_hp hP9 ht⟩, hS.F ht⟩) hS.2.2 dX4_count_28
set_option maxHeartbeats 4000000 in
set_option maxRecDepth 100000 in
theorem c_X4_needed (l : Launch) (G : gh_G) (x : Nat → Nat) (r : gh_B) (a : Nat → Nat) (t : gh_B) (s2 : Nat) (k : Nat) (u : Int32) (hk16 : k < 16) : Met l yX4_needed wsX4_needed ({ frames := 1, cells := 0, slots := 0, locals := 22 } : Room) (gh_r G [.ref (x 0), .int (nI k), .int u] (wM G x (a 0) s2 r)) (vp_Si (fun r9 => r9 = gm_nd r k u)) 0 0 (fun _ => False) := by
  refine Met.ofW (cc := cX4_needed) (maxL := 4) (ret := (some .int)) (by decide) rfl ?_
  intro p e s m args below meth c s₁ B hml hv
  obtain ⟨rfl, hP, hE⟩ := hv
  have hx := B.exec
  have hb := B.bytes
  have hr := B.returns
  have hts := atoms_spec (ws := wsX4_needed) B.pre
  have hown : s.vm.findClass RX4 = some m.cls := findClass_of_methodNamed B.named
  have hlocks := B.notSynchronized
  have hK := hE.1
  have hl := lv_entry ([.ref (x 0), .int (nI k), .int u]) (n := 4) (Nat.le_of_ble_eq_true rfl)
  rw [lg_entry_eq]
  generalize (lg_sl ([.ref (x 0), .int (nI k), .int u]) ++ List.replicate (4 - (lg_sl ([.ref (x 0), .int (nI k), .int u])).length) Slot.unset).toArray = ls at hl ⊢
  have hl : lv_has ls 4 [(0, .ref (x 0)), (1, .int (nI k)), (2, .int u)] := hl
  refine lv_iconst (v := 4) hx hb dX4_needed_0 (by decide) ?_
  refine lv_aload_n hx hb dX4_needed_1 rfl (lv_at hl 0 rfl) ?_
  refine va_get (D := G.1) (ci := 4) (v := .ref (x 6)) (C := RX4) (T := TX4) (N := 9) hx hb hts (fun w9 h9 => List.mem_cons_of_mem _ (List.mem_append_right _ h9)) hown hK hP 0 rfl rfl 6 (by decide) (hts (.fieldLink RX4 20 "GlassHarpModel" "size" "[I") (List.mem_of_getElem? (i := 1) rfl)) (fun _ h9 => h9) rfl dX4_needed_2 ?_
  refine lv_iload_n hx hb dX4_needed_5 rfl (lv_at hl 1 rfl) ?_
  refine gh_ia (f := r 6) hx hb hK hP 3 0 rfl rfl k (rfl) (by omega) (by decide) dX4_needed_6 ?_
  refine lv_imul hx hb dX4_needed_7 ?_
  refine lv_bipush (v := 120) hx hb dX4_needed_8 (by decide) ?_
  refine lv_bipush (v := 8) hx hb dX4_needed_10 (by decide) ?_
  refine lv_aload_n hx hb dX4_needed_12 rfl (lv_at hl 0 rfl) ?_
  refine va_get (D := G.1) (ci := 4) (v := .ref (x 6)) (C := RX4) (T := TX4) (N := 9) hx hb hts (fun w9 h9 => List.mem_cons_of_mem _ (List.mem_append_right _ h9)) hown hK hP 0 rfl rfl 6 (by decide) (hts (.fieldLink RX4 20 "GlassHarpModel" "size" "[I") (List.mem_of_getElem? (i := 1) rfl)) (fun _ h9 => h9) rfl dX4_needed_13 ?_
  refine lv_iload_n hx hb dX4_needed_16 rfl (lv_at hl 1 rfl) ?_
  refine gh_ia (f := r 6) hx hb hK hP 3 0 rfl rfl k (rfl) (by omega) (by decide) dX4_needed_17 ?_
  refine lv_imul hx hb dX4_needed_18 ?_
  refine lv_isub hx hb dX4_needed_19 ?_
  refine lv_iload_n hx hb dX4_needed_20 rfl (lv_at hl 2 rfl) ?_
  refine lv_isub hx hb dX4_needed_21 ?_
  refine lv_imul hx hb dX4_needed_22 ?_
  refine lv_istore_n (lv' := [(3, .int ((4 * (r 6 k)) * ((120 - (8 * (r 6 k))) - u))), (0, .ref (x 0)), (1, .int (nI k)), (2, .int u)]) hx hb dX4_needed_23 rfl hl (by decide) rfl (fun ls hl => ?_)
  refine lv_iload_n hx hb dX4_needed_24 rfl (lv_at hl 0 rfl) ?_
  refine lv_iconst (v := 0) hx hb dX4_needed_25 (by decide) ?_
  refine lv_bipush (v := 100) hx hb dX4_needed_26 (by decide) ?_
  refine lv_aload_n hx hb dX4_needed_28 rfl (lv_at hl 1 rfl) ?_
  refine va_get (D := G.1) (ci := 4) (v := .ref (x 6)) (C := RX4) (T := TX4) (N := 9) hx hb hts (fun w9 h9 => List.mem_cons_of_mem _ (List.mem_append_right _ h9)) hown hK hP 0 rfl rfl 6 (by decide) (hts (.fieldLink RX4 20 "GlassHarpModel" "size" "[I") (List.mem_of_getElem? (i := 1) rfl)) (fun _ h9 => h9) rfl dX4_needed_29 ?_
  refine lv_iload_n hx hb dX4_needed_32 rfl (lv_at hl 2 rfl) ?_
  refine gh_ia (f := r 6) hx hb hK hP 3 0 rfl rfl k (rfl) (by omega) (by decide) dX4_needed_33 ?_
  refine lv_imul hx hb dX4_needed_34 ?_
  refine gh_ci (va_runS (As := [.int ((4 * (r 6 k)) * ((120 - (8 * (r 6 k))) - u)), .int 0, .int (100 * (r 6 k))]) (rest := []) ⟨hx, hb, hml, hown, hts⟩ (c_X4_isIn l G ((4 * (r 6 k)) * ((120 - (8 * (r 6 k))) - u)) 0 (100 * (r 6 k))) (va_cwS 3 hts gX4_needed_X4_isIn rfl rfl rfl hdS_X4_isIn ⟨Nat.le_of_ble_eq_true rfl, Nat.le_of_ble_eq_true rfl⟩) (gh_rS hE (fun k q h => by simp at h)) rfl rfl hl.1 rfl (lv_room (Nat.le_of_ble_eq_true rfl)) dX4_needed_35 ⟨Nat.le_of_ble_eq_true rfl, Nat.le_of_ble_eq_true rfl⟩) ?_
  refine lv_if_eq (tgt := 45) hx hb dX4_needed_38 (by decide) (fun c_1 => ?_) (fun c_1 => ?_)
  · skip
    refine lv_iconst (v := (-1)) hx hb dX4_needed_45 (by decide) ?_
    exact W.iret (v := (-1)) hx hb hr (fun t9 ht hW => ⟨(-1), rfl, by first | (simp only [gm_nd, c_1, ↓reduceIte, if_true, if_false]; done) | (simp only [gm_nd]; simp only [c_1, ↓reduceIte, if_true, if_false]; done) | (simp [gm_nd, c_1, ↓reduceIte, if_true, if_false]; done), ht⟩) (fun q hq => absurd hq List.not_mem_nil) dX4_needed_46
  · skip
    refine lv_iload_n hx hb dX4_needed_41 rfl (lv_at hl 0 rfl) ?_
    refine lv_goto (tgt := 46) hx hb dX4_needed_42 (by decide) ?_
    exact W.iret (v := (4 * (r 6 k)) * ((120 - (8 * (r 6 k))) - u)) hx hb hr (fun t9 ht hW => ⟨(4 * (r 6 k)) * ((120 - (8 * (r 6 k))) - u), rfl, by first | (simp only [gm_nd, c_1, ↓reduceIte, if_true, if_false]; done) | (simp only [gm_nd]; simp only [c_1, ↓reduceIte, if_true, if_false]; done) | (simp [gm_nd, c_1, ↓reduceIte, if_true, if_false]; done), ht⟩) (fun q hq => absurd hq List.not_mem_nil) dX4_needed_46
set_option maxHeartbeats 4000000 in
set_option maxRecDepth 100000 in
theorem c_X4_needs (l : Launch) (G : gh_G) (sz : Nat) (x : Nat → Nat) (r : gh_B) (a : Nat → Nat) (t : gh_B) (s2 : Nat) (n : Nat) (y : Int32) (z : Int32) (hn : r 4 0 = nI n) (hn16 : n ≤ 16) : Met l yX4_needs wsX4_needs ({ frames := 2, cells := 0, slots := 0, locals := 45 } : Room) (gh_w G [.ref (x 0), .int y, .int z] (wM G x (a 0) s2 r) sz) (va_Qi (fun (r9 : Int32) (_ : Unit) => r9 = gm_k3 0 0 (gm_nd (gm_z r) y.toNatClampNeg z) (gh_iw y 0 (nI n - 1)) (gh_iw z 0 120)) (fun _ t9 => va_P G.1 vwCl (wM G x (a 0) s2 (gm_k3 (gm_no r 1) (gm_no r 2) (gm_z r) (gh_iw y 0 (nI n - 1)) (gh_iw z 0 120))) t9.heap) (va_A (wM G x (a 0) s2 r) sz)) 0 0 (va_A (wM G x (a 0) s2 r) sz) := by
  refine Met.ofW (cc := cX4_needs) (maxL := 3) (ret := (some .int)) (by decide) rfl ?_
  intro p e s m args below meth c s₁ B hml hv
  obtain ⟨rfl, hsz, hP, hE, hD0⟩ := hv
  have hx := B.exec
  have hb := B.bytes
  have hr := B.returns
  have hts := atoms_spec (ws := wsX4_needs) B.pre
  have hown : s.vm.findClass RX4 = some m.cls := findClass_of_methodNamed B.named
  have hlocks := B.notSynchronized
  have hK := hE.1
  subst hsz
  have hD := hD0.self (sz := s.heap.size)
  generalize hAe : va_A (wM G x (a 0) s2 r) s.heap.size = A at hD ⊢
  have hA : ∀ q : Nat, s.heap.size ≤ q → A q := fun q h => by rw [← hAe]; exact Or.inr h
  have hS : va_S A s.heap s.heap [] := va_S.rf
  have hl := lv_entry ([.ref (x 0), .int y, .int z]) (n := 3) (Nat.le_of_ble_eq_true rfl)
  rw [lg_entry_eq]
  generalize (lg_sl ([.ref (x 0), .int y, .int z]) ++ List.replicate (3 - (lg_sl ([.ref (x 0), .int y, .int z])).length) Slot.unset).toArray = ls at hl ⊢
  have hl : lv_has ls 3 [(0, .ref (x 0)), (1, .int y), (2, .int z)] := hl
  refine lv_aload_n hx hb dX4_needs_0 rfl (lv_at hl 0 rfl) ?_
  refine lv_iconst (v := 0) hx hb dX4_needs_1 (by decide) ?_
  refine va_put (D := G.1) (ci := 4) (v := .int 0) (ty := .int) (C := RX4) (T := TX4) (N := 9) hx hb hts (fun w9 h9 => List.mem_cons_of_mem _ (List.mem_append_right _ h9)) tyX4 tyX4_ok nmX4 hown hK hP hD hS 0 rfl rfl 0 (by decide) (hts (.fieldLink RX4 35 "GlassHarpModel" "thrown" "I") (List.mem_of_getElem? (i := 1) rfl)) (fun _ h9 => h9) rfl (tyX4_ok 0 (by decide)) rfl rfl (Nat.le_of_ble_eq_true rfl) dX4_needs_2 (fun H locs hP hD hS => ?_)
  have hP : va_P G.1 vwCl (wM G x (a 0) s2 (gh_st r 0 (fun _ => 0))) H := hP
  have hD : va_D A (wM G x (a 0) s2 (gh_st r 0 (fun _ => 0))) := hD
  refine lv_aload_n hx hb dX4_needs_5 rfl (lv_at hl 0 rfl) ?_
  refine lv_iload_n hx hb dX4_needs_6 rfl (lv_at hl 1 rfl) ?_
  refine gh_ci (va_runV (As := [.int y]) (rest := []) ⟨hx, hb, hml, hown, hts⟩ (c_X4_isGlass l G x (gh_st r 0 (fun _ => 0)) a t s2 n y (hn)) (cwV 1 hts gX4_needs_X4_isGlass rfl rfl rfl ⟨rfl, hdS_X4_isGlass⟩ ⟨Nat.le_of_ble_eq_true rfl, Nat.le_of_ble_eq_true rfl⟩) (gh_rV hE hP (ci := 4) (q0 := 0) rfl rfl) rfl rfl hl.1 rfl (lv_room (Nat.le_of_ble_eq_true rfl)) dX4_needs_7 ⟨Nat.le_of_ble_eq_true rfl, Nat.le_of_ble_eq_true rfl⟩) ?_
  refine lv_if_ne (tgt := 19) hx hb dX4_needs_10 (by decide) (fun c_1 => ?_) (fun c_1 => ?_)
  · skip
    obtain ⟨k, hk, ek⟩ := gm_ig c_1 (Nat.lt_of_le_of_lt hn16 (by decide))
    have ekc : y.toNatClampNeg = k := by rw [ek, nI_clamp (Nat.lt_trans hk (Nat.lt_of_le_of_lt hn16 (by decide)))]
    refine lv_iload_n hx hb dX4_needs_19 rfl (lv_at hl 2 rfl) ?_
    refine lv_iconst (v := 0) hx hb dX4_needs_20 (by decide) ?_
    refine lv_bipush (v := 120) hx hb dX4_needs_21 (by decide) ?_
    refine gh_ci (va_runS (As := [.int z, .int 0, .int 120]) (rest := []) ⟨hx, hb, hml, hown, hts⟩ (c_X4_isIn l G z 0 120) (va_cwS 3 hts gX4_needs_X4_isIn rfl rfl rfl hdS_X4_isIn ⟨Nat.le_of_ble_eq_true rfl, Nat.le_of_ble_eq_true rfl⟩) (gh_rS hE (fun k q h => by simp at h)) rfl rfl hl.1 rfl (lv_room (Nat.le_of_ble_eq_true rfl)) dX4_needs_23 ⟨Nat.le_of_ble_eq_true rfl, Nat.le_of_ble_eq_true rfl⟩) ?_
    refine lv_if_eq (tgt := 38) hx hb dX4_needs_26 (by decide) (fun c_2 => ?_) (fun c_2 => ?_)
    · skip
      refine lv_aload_n hx hb dX4_needs_38 rfl (lv_at hl 0 rfl) ?_
      refine lv_iconst (v := 2) hx hb dX4_needs_39 (by decide) ?_
      refine gh_cw (wr := []) (ws' := wM G x (a 0) s2 (gh_st (gh_st r 0 (fun _ => 0)) 0 (fun _ => 2))) (va_runV (As := [.int 2]) (rest := []) ⟨hx, hb, hml, hown, hts⟩ (c_X4_no l G H.size x (gh_st r 0 (fun _ => 0)) a t s2 2) (cwV 1 hts gX4_needs_X4_no rfl rfl rfl ⟨rfl, hdS_X4_no⟩ ⟨Nat.le_of_ble_eq_true rfl, Nat.le_of_ble_eq_true rfl⟩) (gh_wV hE hP hD (ci := 4) (q0 := 0) rfl rfl) rfl rfl hl.1 rfl (lv_room (Nat.le_of_ble_eq_true rfl)) dX4_needs_40 ⟨Nat.le_of_ble_eq_true rfl, Nat.le_of_ble_eq_true rfl⟩) hP hD hS hA [0, 1, 2, 3] [] [0, 1, 2, 3] rfl rfl (by decide) (by decide) (by decide) [x 0, x 3, x 5, x 6] [x 0, x 3, x 5, x 6] rfl rfl rfl rfl rfl (fun H locs hP hD hS => ?_)
      have hP9 : va_P G.1 vwCl (wM G x (a 0) s2 (gm_k3 (gm_no r 1) (gm_no r 2) (gm_z r) (gh_iw y 0 (nI n - 1)) (gh_iw z 0 120))) H := by
        have e9 : gh_st (gh_st r 0 (fun _ => 0)) 0 (fun _ => 2) = gm_k3 (gm_no r 1) (gm_no r 2) (gm_z r) (gh_iw y 0 (nI n - 1)) (gh_iw z 0 120) := by first | (simp only [gm_k3, gm_no, gm_z, c_1, ekc, c_2, ↓reduceIte, if_true, if_false]; done) | (simp only [gm_k3, gm_no, gm_z]; simp only [c_1, ekc, c_2, ↓reduceIte, if_true, if_false]; done) | (simp [gm_k3, gm_no, gm_z, c_1, ekc, c_2, ↓reduceIte, if_true, if_false]; done)
        rw [← e9]
        exact hP
      exact W.iret (v := 0) hx hb hr (fun t9 ht hW => ⟨⟨0, (), rfl, by first | (simp only [gm_k3, gm_no, gm_z, c_1, ekc, c_2, ↓reduceIte, if_true, if_false]; done) | (simp only [gm_k3, gm_no, gm_z]; simp only [c_1, ekc, c_2, ↓reduceIte, if_true, if_false]; done) | (simp [gm_k3, gm_no, gm_z, c_1, ekc, c_2, ↓reduceIte, if_true, if_false]; done), gh_hp hP9 ht⟩, hS.F ht⟩) hS.2.2 dX4_needs_43
    · skip
      refine lv_aload_n hx hb dX4_needs_29 rfl (lv_at hl 0 rfl) ?_
      refine lv_iload_n hx hb dX4_needs_30 rfl (lv_at hl 1 rfl) ?_
      refine gh_vv (y := nI k) (ek) ?_
      refine lv_iload_n hx hb dX4_needs_31 rfl (lv_at hl 2 rfl) ?_
      refine gh_ci (va_runV (As := [.int (nI k), .int z]) (rest := []) ⟨hx, hb, hml, hown, hts⟩ (c_X4_needed l G x (gh_st r 0 (fun _ => 0)) a t s2 k z (Nat.lt_of_lt_of_le hk hn16)) (cwV 2 hts gX4_needs_X4_needed rfl rfl rfl ⟨rfl, hdS_X4_needed⟩ ⟨Nat.le_of_ble_eq_true rfl, Nat.le_of_ble_eq_true rfl⟩) (gh_rV hE hP (ci := 4) (q0 := 0) rfl rfl) rfl rfl hl.1 rfl (lv_room (Nat.le_of_ble_eq_true rfl)) dX4_needs_32 ⟨Nat.le_of_ble_eq_true rfl, Nat.le_of_ble_eq_true rfl⟩) ?_
      refine lv_goto (tgt := 43) hx hb dX4_needs_35 (by decide) ?_
      have hP9 : va_P G.1 vwCl (wM G x (a 0) s2 (gm_k3 (gm_no r 1) (gm_no r 2) (gm_z r) (gh_iw y 0 (nI n - 1)) (gh_iw z 0 120))) H := by
        have e9 : gh_st r 0 (fun _ => 0) = gm_k3 (gm_no r 1) (gm_no r 2) (gm_z r) (gh_iw y 0 (nI n - 1)) (gh_iw z 0 120) := by first | (simp only [gm_k3, gm_no, gm_z, c_1, ekc, c_2, ↓reduceIte, if_true, if_false]; done) | (simp only [gm_k3, gm_no, gm_z]; simp only [c_1, ekc, c_2, ↓reduceIte, if_true, if_false]; done) | (simp [gm_k3, gm_no, gm_z, c_1, ekc, c_2, ↓reduceIte, if_true, if_false]; done)
        rw [← e9]
        exact hP
      exact W.iret (v := gm_nd (gh_st r 0 (fun _ => 0)) k z) hx hb hr (fun t9 ht hW => ⟨⟨gm_nd (gh_st r 0 (fun _ => 0)) k z, (), rfl, by first | (simp only [gm_k3, gm_no, gm_z, c_1, ekc, c_2, ↓reduceIte, if_true, if_false]; done) | (simp only [gm_k3, gm_no, gm_z]; simp only [c_1, ekc, c_2, ↓reduceIte, if_true, if_false]; done) | (simp [gm_k3, gm_no, gm_z, c_1, ekc, c_2, ↓reduceIte, if_true, if_false]; done), gh_hp hP9 ht⟩, hS.F ht⟩) hS.2.2 dX4_needs_43
  · skip
    refine lv_aload_n hx hb dX4_needs_13 rfl (lv_at hl 0 rfl) ?_
    refine lv_iconst (v := 1) hx hb dX4_needs_14 (by decide) ?_
    refine gh_cw (wr := []) (ws' := wM G x (a 0) s2 (gh_st (gh_st r 0 (fun _ => 0)) 0 (fun _ => 1))) (va_runV (As := [.int 1]) (rest := []) ⟨hx, hb, hml, hown, hts⟩ (c_X4_no l G H.size x (gh_st r 0 (fun _ => 0)) a t s2 1) (cwV 1 hts gX4_needs_X4_no rfl rfl rfl ⟨rfl, hdS_X4_no⟩ ⟨Nat.le_of_ble_eq_true rfl, Nat.le_of_ble_eq_true rfl⟩) (gh_wV hE hP hD (ci := 4) (q0 := 0) rfl rfl) rfl rfl hl.1 rfl (lv_room (Nat.le_of_ble_eq_true rfl)) dX4_needs_15 ⟨Nat.le_of_ble_eq_true rfl, Nat.le_of_ble_eq_true rfl⟩) hP hD hS hA [0, 1, 2, 3] [] [0, 1, 2, 3] rfl rfl (by decide) (by decide) (by decide) [x 0, x 3, x 5, x 6] [x 0, x 3, x 5, x 6] rfl rfl rfl rfl rfl (fun H locs hP hD hS => ?_)
    have hP9 : va_P G.1 vwCl (wM G x (a 0) s2 (gm_k3 (gm_no r 1) (gm_no r 2) (gm_z r) (gh_iw y 0 (nI n - 1)) (gh_iw z 0 120))) H := by
      have e9 : gh_st (gh_st r 0 (fun _ => 0)) 0 (fun _ => 1) = gm_k3 (gm_no r 1) (gm_no r 2) (gm_z r) (gh_iw y 0 (nI n - 1)) (gh_iw z 0 120) := by first | (simp only [gm_k3, gm_no, gm_z, c_1, ↓reduceIte, if_true, if_false]; done) | (simp only [gm_k3, gm_no, gm_z]; simp only [c_1, ↓reduceIte, if_true, if_false]; done) | (simp [gm_k3, gm_no, gm_z, c_1, ↓reduceIte, if_true, if_false]; done)
      rw [← e9]
      exact hP
    exact W.iret (v := 0) hx hb hr (fun t9 ht hW => ⟨⟨0, (), rfl, by first | (simp only [gm_k3, gm_no, gm_z, c_1, ↓reduceIte, if_true, if_false]; done) | (simp only [gm_k3, gm_no, gm_z]; simp only [c_1, ↓reduceIte, if_true, if_false]; done) | (simp [gm_k3, gm_no, gm_z, c_1, ↓reduceIte, if_true, if_false]; done), gh_hp hP9 ht⟩, hS.F ht⟩) hS.2.2 dX4_needs_18
set_option maxHeartbeats 4000000 in
set_option maxRecDepth 100000 in
theorem c_X4_foresee (l : Launch) (G : gh_G) (sz : Nat) (x : Nat → Nat) (r : gh_B) (a : Nat → Nat) (t : gh_B) (d : Nat → Nat) (q : gh_B) (n : Nat) (nn : Nat) (y : Int32) (z : Int32) (hn : r 4 0 = nI n) (hn16 : n ≤ 16) (hsz : ∀ j : Nat, j < n → ¬ 4 * r 6 j = 0) (hrw : ∀ j : Nat, j < n → vp_in (r 5 j) 4) (hz : r 2 0 = nI nn) (hz32 : nn ≤ 32) (hln : ¬ r 1 0 = 0) : Met l yX4_foresee wsX4_foresee ({ frames := 6, cells := 1, slots := 4, locals := 131 } : Room) (gh_w G [.ref (x 0), .int y, .int z] ((wM G x (a 0) (d 0) r) ++ (wT G a (x 0) t) ++ (wT G d (x 0) q)) sz) (va_Qi (fun (r9 : Int32) (_ : gh_B) => r9 = gm_k3 0 0 (gm_fs (gm_z r) t q n nn y.toNatClampNeg z.toNatClampNeg) (gh_iw y 1 150) (gh_iw z 0 3)) (fun u t9 => va_P G.1 vwCl ((wM G x (a 0) (d 0) (gm_k3 (gm_no r 1) (gm_no r 2) (gm_z r) (gh_iw y 1 150) (gh_iw z 0 3))) ++ (wT G a (x 0) t) ++ (wT G d (x 0) u)) t9.heap) (va_A ((wM G x (a 0) (d 0) r) ++ (wT G a (x 0) t) ++ (wT G d (x 0) q)) sz)) 1 4 (va_A ((wM G x (a 0) (d 0) r) ++ (wT G a (x 0) t) ++ (wT G d (x 0) q)) sz) := by
  refine Met.ofW (cc := cX4_foresee) (maxL := 4) (ret := (some .int)) (by decide) rfl ?_
  intro p e s m args below meth c s₁ B hml hv
  obtain ⟨rfl, hsz, hP, hE, hD0⟩ := hv
  have hx := B.exec
  have hb := B.bytes
  have hr := B.returns
  have hts := atoms_spec (ws := wsX4_foresee) B.pre
  have hown : s.vm.findClass RX4 = some m.cls := findClass_of_methodNamed B.named
  have hlocks := B.notSynchronized
  have hK := hE.1
  subst hsz
  have hD := hD0.self (sz := s.heap.size)
  generalize hAe : va_A ((wM G x (a 0) (d 0) r) ++ (wT G a (x 0) t) ++ (wT G d (x 0) q)) s.heap.size = A at hD ⊢
  have hA : ∀ q : Nat, s.heap.size ≤ q → A q := fun q h => by rw [← hAe]; exact Or.inr h
  have hS : va_S A s.heap s.heap [] := va_S.rf
  have hl := lv_entry ([.ref (x 0), .int y, .int z]) (n := 4) (Nat.le_of_ble_eq_true rfl)
  rw [lg_entry_eq]
  generalize (lg_sl ([.ref (x 0), .int y, .int z]) ++ List.replicate (4 - (lg_sl ([.ref (x 0), .int y, .int z])).length) Slot.unset).toArray = ls at hl ⊢
  have hl : lv_has ls 4 [(0, .ref (x 0)), (1, .int y), (2, .int z)] := hl
  refine lv_aload_n hx hb dX4_foresee_0 rfl (lv_at hl 0 rfl) ?_
  refine lv_iconst (v := 0) hx hb dX4_foresee_1 (by decide) ?_
  refine va_put (D := G.1) (ci := 4) (v := .int 0) (ty := .int) (C := RX4) (T := TX4) (N := 9) hx hb hts (fun w9 h9 => List.mem_cons_of_mem _ (List.mem_append_left _ (List.mem_append_right _ h9))) tyX4 tyX4_ok nmX4 hown hK hP hD hS 0 rfl rfl 0 (by decide) (hts (.fieldLink RX4 35 "GlassHarpModel" "thrown" "I") (List.mem_of_getElem? (i := 1) rfl)) (fun _ h9 => h9) rfl (tyX4_ok 0 (by decide)) rfl rfl (Nat.le_of_ble_eq_true rfl) dX4_foresee_2 (fun H locs hP hD hS => ?_)
  have hP : va_P G.1 vwCl ((wM G x (a 0) (d 0) (gh_st r 0 (fun _ => 0))) ++ (wT G a (x 0) t) ++ (wT G d (x 0) q)) H := hP
  have hD : va_D A ((wM G x (a 0) (d 0) (gh_st r 0 (fun _ => 0))) ++ (wT G a (x 0) t) ++ (wT G d (x 0) q)) := hD
  refine lv_iload_n hx hb dX4_foresee_5 rfl (lv_at hl 1 rfl) ?_
  refine lv_iconst (v := 1) hx hb dX4_foresee_6 (by decide) ?_
  refine lv_sipush (v := 150) hx hb dX4_foresee_7 (by decide) ?_
  refine gh_ci (va_runS (As := [.int y, .int 1, .int 150]) (rest := []) ⟨hx, hb, hml, hown, hts⟩ (c_X4_isIn l G y 1 150) (va_cwS 3 hts gX4_foresee_X4_isIn rfl rfl rfl hdS_X4_isIn ⟨Nat.le_of_ble_eq_true rfl, Nat.le_of_ble_eq_true rfl⟩) (gh_rS hE (fun k q h => by simp at h)) rfl rfl hl.1 rfl (lv_room (Nat.le_of_ble_eq_true rfl)) dX4_foresee_10 ⟨Nat.le_of_ble_eq_true rfl, Nat.le_of_ble_eq_true rfl⟩) ?_
  refine lv_if_ne (tgt := 22) hx hb dX4_foresee_13 (by decide) (fun c_1 => ?_) (fun c_1 => ?_)
  · skip
    obtain ⟨b, hb1, hb2, eb⟩ := gh_iw_r (a := 1) (b := 150) c_1 (by decide) (by decide) (by decide) (by decide)
    have ebc : y.toNatClampNeg = b := by rw [eb, nI_clamp (Nat.lt_of_le_of_lt hb2 (by decide))]
    refine lv_iload_n hx hb dX4_foresee_22 rfl (lv_at hl 2 rfl) ?_
    refine lv_iconst (v := 0) hx hb dX4_foresee_23 (by decide) ?_
    refine lv_iconst (v := 3) hx hb dX4_foresee_24 (by decide) ?_
    refine gh_ci (va_runS (As := [.int z, .int 0, .int 3]) (rest := []) ⟨hx, hb, hml, hown, hts⟩ (c_X4_isIn l G z 0 3) (va_cwS 3 hts gX4_foresee_X4_isIn rfl rfl rfl hdS_X4_isIn ⟨Nat.le_of_ble_eq_true rfl, Nat.le_of_ble_eq_true rfl⟩) (gh_rS hE (fun k q h => by simp at h)) rfl rfl hl.1 rfl (lv_room (Nat.le_of_ble_eq_true rfl)) dX4_foresee_25 ⟨Nat.le_of_ble_eq_true rfl, Nat.le_of_ble_eq_true rfl⟩) ?_
    refine lv_if_ne (tgt := 37) hx hb dX4_foresee_28 (by decide) (fun c_2 => ?_) (fun c_2 => ?_)
    · skip
      obtain ⟨w, hw, ew⟩ := gm_i8 (k := 4) c_2 (by decide) (by decide) (by decide)
      have ewc : z.toNatClampNeg = w := by rw [ew, nI_clamp (Nat.lt_trans hw (by decide))]
      refine lv_aload_n hx hb dX4_foresee_37 rfl (lv_at hl 0 rfl) ?_
      refine va_get (D := G.1) (ci := 4) (v := .ref (d 0)) (C := RX4) (T := TX4) (N := 9) hx hb hts (fun w9 h9 => List.mem_cons_of_mem _ (List.mem_append_left _ (List.mem_append_right _ h9))) hown hK hP 0 rfl rfl 8 (by decide) (hts (.fieldLink RX4 32 "GlassHarpModel" "ahead" "LGlassHarpModel$State;") (List.mem_of_getElem? (i := 2) rfl)) (fun _ h9 => h9) rfl dX4_foresee_38 ?_
      refine lv_aload_n hx hb dX4_foresee_41 rfl (lv_at hl 0 rfl) ?_
      refine va_get (D := G.1) (ci := 4) (v := .ref (a 0)) (C := RX4) (T := TX4) (N := 9) hx hb hts (fun w9 h9 => List.mem_cons_of_mem _ (List.mem_append_left _ (List.mem_append_right _ h9))) hown hK hP 0 rfl rfl 7 (by decide) (hts (.fieldLink RX4 28 "GlassHarpModel" "s" "LGlassHarpModel$State;") (List.mem_of_getElem? (i := 3) rfl)) (fun _ h9 => h9) rfl dX4_foresee_42 ?_
      refine gh_cv (wr := wM G x (a 0) (d 0) (gh_st r 0 (fun _ => 0))) (ws' := (wM G x (a 0) (d 0) (gh_st r 0 (fun _ => 0))) ++ (wT G a (x 0) t) ++ (wT G d (x 0) (gm_bc t q))) (va_runV (As := [.ref (a 0)]) (rest := []) ⟨hx, hb, hml, hown, hts⟩ (c_X3_become l G H.size d q a t (x 0)) (cwV 1 hts gX4_foresee_X3_become rfl rfl rfl ⟨rfl, hdS_X3_become⟩ ⟨Nat.le_of_ble_eq_true rfl, Nat.le_of_ble_eq_true rfl⟩) (gh_wV hE (hP.sub (ws' := (wT G d (x 0) q) ++ (wT G a (x 0) t)) [11, 12, 13, 14, 15, 16, 17, 4, 5, 6, 7, 8, 9, 10] rfl) (hD.sub (ws' := (wT G d (x 0) q) ++ (wT G a (x 0) t)) [11, 12, 13, 14, 15, 16, 17, 4, 5, 6, 7, 8, 9, 10] (by decide) rfl) (ci := 3) (q0 := 0) rfl rfl) rfl rfl hl.1 rfl (lv_room (Nat.le_of_ble_eq_true rfl)) dX4_foresee_45 ⟨Nat.le_of_ble_eq_true rfl, Nat.le_of_ble_eq_true rfl⟩) hP hD hS hA [11, 12, 13, 14, 15, 16, 17, 4, 5, 6, 7, 8, 9, 10] [0, 1, 2, 3] [0, 1, 2, 3, 11, 12, 13, 14, 15, 16, 17, 4, 5, 6, 7, 8, 9, 10] rfl rfl (by decide) (by decide) (by decide) [d 0, d 4, d 5, d 6, d 7, d 8, d 9, a 0, a 4, a 5, a 6, a 7, a 8, a 9] [x 0, x 3, x 5, x 6, a 0, a 4, a 5, a 6, a 7, a 8, a 9, d 0, d 4, d 5, d 6, d 7, d 8, d 9] rfl rfl rfl rfl rfl (fun H locs hP hD hS => ?_)
      refine lv_aload_n hx hb dX4_foresee_48 rfl (lv_at hl 0 rfl) ?_
      refine lv_iload_n hx hb dX4_foresee_49 rfl (lv_at hl 1 rfl) ?_
      refine gh_vv (y := nI b) (eb) ?_
      refine gh_cv (wr := wT G a (x 0) t) (ws' := (wM G x (a 0) (d 0) (gh_st r 0 (fun _ => 0))) ++ (wT G a (x 0) t) ++ (wT G d (x 0) (gm_go (gh_st r 0 (fun _ => 0)) (gm_bc t q) n nn b))) (va_runV (As := [.int (nI b)]) (rest := []) ⟨hx, hb, hml, hown, hts⟩ (c_X4_run l G H.size x (a 0) (gh_st r 0 (fun _ => 0)) d (gm_bc t q) n nn b (hn) (hn16) (hsz) (hrw) (hz) (hz32) (hln) (Nat.lt_of_le_of_lt hb2 (by decide))) (cwV 1 hts gX4_foresee_X4_run rfl rfl rfl ⟨rfl, hdS_X4_run⟩ ⟨Nat.le_of_ble_eq_true rfl, Nat.le_of_ble_eq_true rfl⟩) (gh_wV hE (hP.sub (ws' := (wM G x (a 0) (d 0) (gh_st r 0 (fun _ => 0))) ++ (wT G d (x 0) (gm_bc t q))) [0, 1, 2, 3, 11, 12, 13, 14, 15, 16, 17] rfl) (hD.sub (ws' := (wM G x (a 0) (d 0) (gh_st r 0 (fun _ => 0))) ++ (wT G d (x 0) (gm_bc t q))) [0, 1, 2, 3, 11, 12, 13, 14, 15, 16, 17] (by decide) rfl) (ci := 4) (q0 := 0) rfl rfl) rfl rfl hl.1 rfl (lv_room (Nat.le_of_ble_eq_true rfl)) dX4_foresee_50 ⟨Nat.le_of_ble_eq_true rfl, Nat.le_of_ble_eq_true rfl⟩) hP hD hS hA [0, 1, 2, 3, 11, 12, 13, 14, 15, 16, 17] [4, 5, 6, 7, 8, 9, 10] [7, 8, 9, 10, 0, 1, 2, 3, 4, 5, 6, 11, 12, 13, 14, 15, 16, 17] rfl rfl (by decide) (by decide) (by decide) [x 0, x 3, x 5, x 6, d 0, d 4, d 5, d 6, d 7, d 8, d 9] [x 0, x 3, x 5, x 6, a 0, a 4, a 5, a 6, a 7, a 8, a 9, d 0, d 4, d 5, d 6, d 7, d 8, d 9] rfl rfl rfl rfl rfl (fun H locs hP hD hS => ?_)
      refine lv_iconst (v := 4) hx hb dX4_foresee_53 (by decide) ?_
      refine gh_na hx hb (hts (.arrayClass .int) (List.mem_of_getElem? (i := 4) rfl)) hK hP hD hS hA 4 (rfl) (by decide) (Nat.le_of_ble_eq_true rfl) (Nat.le_of_ble_eq_true rfl) dX4_foresee_54 (fun q_3 H hP hD hS => ?_)
      have hP : va_P G.1 vwCl ((wM G x (a 0) (d 0) (gh_st r 0 (fun _ => 0))) ++ (wT G a (x 0) t) ++ (wT G d (x 0) (gm_go (gh_st r 0 (fun _ => 0)) (gm_bc t q) n nn b)) ++ ([(q_3, .inl (G.2.1, 4, .inl ((fun _ => 0))))])) H := hP
      have hD : va_D A ((wM G x (a 0) (d 0) (gh_st r 0 (fun _ => 0))) ++ (wT G a (x 0) t) ++ (wT G d (x 0) (gm_go (gh_st r 0 (fun _ => 0)) (gm_bc t q) n nn b)) ++ ([(q_3, .inl (G.2.1, 4, .inl ((fun _ => 0))))])) := hD
      refine lv_dup hx hb dX4_foresee_56 rfl ?_
      refine lv_iconst (v := 0) hx hb dX4_foresee_57 (by decide) ?_
      refine lv_aload_n hx hb dX4_foresee_58 rfl (lv_at hl 0 rfl) ?_
      refine va_get (D := G.1) (ci := 4) (v := .ref (d 0)) (C := RX4) (T := TX4) (N := 9) hx hb hts (fun w9 h9 => List.mem_cons_of_mem _ (List.mem_append_left _ (List.mem_append_right _ h9))) hown hK hP 0 rfl rfl 8 (by decide) (hts (.fieldLink RX4 32 "GlassHarpModel" "ahead" "LGlassHarpModel$State;") (List.mem_of_getElem? (i := 2) rfl)) (fun _ h9 => h9) rfl dX4_foresee_59 ?_
      refine va_getN (D := G.1) (ci := 3) (v := .int ((gm_go (gh_st r 0 (fun _ => 0)) (gm_bc t q) n nn b) 1 0)) (C := RX3) (T := TX3) (N := 12) hx hb hts (fun w9 h9 => List.mem_cons_of_mem _ (List.mem_append_right _ h9)) hown hK hP 11 rfl rfl 1 (by decide) (va_Nw.use rfl (hE.2.2 (RX4, 100, "GlassHarpModel$State", "played", "I", RX4) (List.mem_of_getElem? (i := 23) rfl))) (fun _ h9 => h9) rfl dX4_foresee_62 ?_
      refine lv_aload_n hx hb dX4_foresee_65 rfl (lv_at hl 0 rfl) ?_
      refine va_get (D := G.1) (ci := 4) (v := .ref (a 0)) (C := RX4) (T := TX4) (N := 9) hx hb hts (fun w9 h9 => List.mem_cons_of_mem _ (List.mem_append_left _ (List.mem_append_right _ h9))) hown hK hP 0 rfl rfl 7 (by decide) (hts (.fieldLink RX4 28 "GlassHarpModel" "s" "LGlassHarpModel$State;") (List.mem_of_getElem? (i := 3) rfl)) (fun _ h9 => h9) rfl dX4_foresee_66 ?_
      refine va_getN (D := G.1) (ci := 3) (v := .int (t 1 0)) (C := RX3) (T := TX3) (N := 12) hx hb hts (fun w9 h9 => List.mem_cons_of_mem _ (List.mem_append_right _ h9)) hown hK hP 4 rfl rfl 1 (by decide) (va_Nw.use rfl (hE.2.2 (RX4, 100, "GlassHarpModel$State", "played", "I", RX4) (List.mem_of_getElem? (i := 23) rfl))) (fun _ h9 => h9) rfl dX4_foresee_69 ?_
      refine lv_isub hx hb dX4_foresee_72 ?_
      refine gh_is (f := (fun _ => 0)) (ws' := (wM G x (a 0) (d 0) (gh_st r 0 (fun _ => 0))) ++ (wT G a (x 0) t) ++ (wT G d (x 0) (gm_go (gh_st r 0 (fun _ => 0)) (gm_bc t q) n nn b)) ++ ([(q_3, .inl (G.2.1, 4, .inl (upd (fun _ => 0) 0 (((gm_go (gh_st r 0 (fun _ => 0)) (gm_bc t q) n nn b) 1 0) - (t 1 0)))))])) hx hb hK hP hD hS 18 0 rfl rfl 0 (rfl) (by decide) (by decide) dX4_foresee_73 rfl (fun H locs hP hD hS => ?_)
      refine lv_dup hx hb dX4_foresee_74 rfl ?_
      refine lv_iconst (v := 1) hx hb dX4_foresee_75 (by decide) ?_
      refine lv_aload_n hx hb dX4_foresee_76 rfl (lv_at hl 0 rfl) ?_
      refine va_get (D := G.1) (ci := 4) (v := .ref (d 0)) (C := RX4) (T := TX4) (N := 9) hx hb hts (fun w9 h9 => List.mem_cons_of_mem _ (List.mem_append_left _ (List.mem_append_right _ h9))) hown hK hP 0 rfl rfl 8 (by decide) (hts (.fieldLink RX4 32 "GlassHarpModel" "ahead" "LGlassHarpModel$State;") (List.mem_of_getElem? (i := 2) rfl)) (fun _ h9 => h9) rfl dX4_foresee_77 ?_
      refine va_getN (D := G.1) (ci := 3) (v := .int ((gm_go (gh_st r 0 (fun _ => 0)) (gm_bc t q) n nn b) 2 0)) (C := RX3) (T := TX3) (N := 12) hx hb hts (fun w9 h9 => List.mem_cons_of_mem _ (List.mem_append_right _ h9)) hown hK hP 11 rfl rfl 2 (by decide) (va_Nw.use rfl (hE.2.2 (RX4, 113, "GlassHarpModel$State", "tuned", "I", RX4) (List.mem_of_getElem? (i := 24) rfl))) (fun _ h9 => h9) rfl dX4_foresee_80 ?_
      refine lv_aload_n hx hb dX4_foresee_83 rfl (lv_at hl 0 rfl) ?_
      refine va_get (D := G.1) (ci := 4) (v := .ref (a 0)) (C := RX4) (T := TX4) (N := 9) hx hb hts (fun w9 h9 => List.mem_cons_of_mem _ (List.mem_append_left _ (List.mem_append_right _ h9))) hown hK hP 0 rfl rfl 7 (by decide) (hts (.fieldLink RX4 28 "GlassHarpModel" "s" "LGlassHarpModel$State;") (List.mem_of_getElem? (i := 3) rfl)) (fun _ h9 => h9) rfl dX4_foresee_84 ?_
      refine va_getN (D := G.1) (ci := 3) (v := .int (t 2 0)) (C := RX3) (T := TX3) (N := 12) hx hb hts (fun w9 h9 => List.mem_cons_of_mem _ (List.mem_append_right _ h9)) hown hK hP 4 rfl rfl 2 (by decide) (va_Nw.use rfl (hE.2.2 (RX4, 113, "GlassHarpModel$State", "tuned", "I", RX4) (List.mem_of_getElem? (i := 24) rfl))) (fun _ h9 => h9) rfl dX4_foresee_87 ?_
      refine lv_isub hx hb dX4_foresee_90 ?_
      refine gh_is (f := upd (fun _ => 0) 0 (((gm_go (gh_st r 0 (fun _ => 0)) (gm_bc t q) n nn b) 1 0) - (t 1 0))) (ws' := (wM G x (a 0) (d 0) (gh_st r 0 (fun _ => 0))) ++ (wT G a (x 0) t) ++ (wT G d (x 0) (gm_go (gh_st r 0 (fun _ => 0)) (gm_bc t q) n nn b)) ++ ([(q_3, .inl (G.2.1, 4, .inl (upd (upd (fun _ => 0) 0 (((gm_go (gh_st r 0 (fun _ => 0)) (gm_bc t q) n nn b) 1 0) - (t 1 0))) 1 (((gm_go (gh_st r 0 (fun _ => 0)) (gm_bc t q) n nn b) 2 0) - (t 2 0)))))])) hx hb hK hP hD hS 18 0 rfl rfl 1 (rfl) (by decide) (by decide) dX4_foresee_91 rfl (fun H locs hP hD hS => ?_)
      refine lv_dup hx hb dX4_foresee_92 rfl ?_
      refine lv_iconst (v := 2) hx hb dX4_foresee_93 (by decide) ?_
      refine lv_aload_n hx hb dX4_foresee_94 rfl (lv_at hl 0 rfl) ?_
      refine va_get (D := G.1) (ci := 4) (v := .ref (d 0)) (C := RX4) (T := TX4) (N := 9) hx hb hts (fun w9 h9 => List.mem_cons_of_mem _ (List.mem_append_left _ (List.mem_append_right _ h9))) hown hK hP 0 rfl rfl 8 (by decide) (hts (.fieldLink RX4 32 "GlassHarpModel" "ahead" "LGlassHarpModel$State;") (List.mem_of_getElem? (i := 2) rfl)) (fun _ h9 => h9) rfl dX4_foresee_95 ?_
      refine va_getN (D := G.1) (ci := 3) (v := .int ((gm_go (gh_st r 0 (fun _ => 0)) (gm_bc t q) n nn b) 3 0)) (C := RX3) (T := TX3) (N := 12) hx hb hts (fun w9 h9 => List.mem_cons_of_mem _ (List.mem_append_right _ h9)) hown hK hP 11 rfl rfl 3 (by decide) (va_Nw.use rfl (hE.2.2 (RX4, 116, "GlassHarpModel$State", "missed", "I", RX4) (List.mem_of_getElem? (i := 25) rfl))) (fun _ h9 => h9) rfl dX4_foresee_98 ?_
      refine lv_aload_n hx hb dX4_foresee_101 rfl (lv_at hl 0 rfl) ?_
      refine va_get (D := G.1) (ci := 4) (v := .ref (a 0)) (C := RX4) (T := TX4) (N := 9) hx hb hts (fun w9 h9 => List.mem_cons_of_mem _ (List.mem_append_left _ (List.mem_append_right _ h9))) hown hK hP 0 rfl rfl 7 (by decide) (hts (.fieldLink RX4 28 "GlassHarpModel" "s" "LGlassHarpModel$State;") (List.mem_of_getElem? (i := 3) rfl)) (fun _ h9 => h9) rfl dX4_foresee_102 ?_
      refine va_getN (D := G.1) (ci := 3) (v := .int (t 3 0)) (C := RX3) (T := TX3) (N := 12) hx hb hts (fun w9 h9 => List.mem_cons_of_mem _ (List.mem_append_right _ h9)) hown hK hP 4 rfl rfl 3 (by decide) (va_Nw.use rfl (hE.2.2 (RX4, 116, "GlassHarpModel$State", "missed", "I", RX4) (List.mem_of_getElem? (i := 25) rfl))) (fun _ h9 => h9) rfl dX4_foresee_105 ?_
      refine lv_isub hx hb dX4_foresee_108 ?_
      refine gh_is (f := upd (upd (fun _ => 0) 0 (((gm_go (gh_st r 0 (fun _ => 0)) (gm_bc t q) n nn b) 1 0) - (t 1 0))) 1 (((gm_go (gh_st r 0 (fun _ => 0)) (gm_bc t q) n nn b) 2 0) - (t 2 0))) (ws' := (wM G x (a 0) (d 0) (gh_st r 0 (fun _ => 0))) ++ (wT G a (x 0) t) ++ (wT G d (x 0) (gm_go (gh_st r 0 (fun _ => 0)) (gm_bc t q) n nn b)) ++ ([(q_3, .inl (G.2.1, 4, .inl (upd (upd (upd (fun _ => 0) 0 (((gm_go (gh_st r 0 (fun _ => 0)) (gm_bc t q) n nn b) 1 0) - (t 1 0))) 1 (((gm_go (gh_st r 0 (fun _ => 0)) (gm_bc t q) n nn b) 2 0) - (t 2 0))) 2 (((gm_go (gh_st r 0 (fun _ => 0)) (gm_bc t q) n nn b) 3 0) - (t 3 0)))))])) hx hb hK hP hD hS 18 0 rfl rfl 2 (rfl) (by decide) (by decide) dX4_foresee_109 rfl (fun H locs hP hD hS => ?_)
      refine lv_dup hx hb dX4_foresee_110 rfl ?_
      refine lv_iconst (v := 3) hx hb dX4_foresee_111 (by decide) ?_
      refine lv_aload_n hx hb dX4_foresee_112 rfl (lv_at hl 0 rfl) ?_
      refine va_get (D := G.1) (ci := 4) (v := .ref (d 0)) (C := RX4) (T := TX4) (N := 9) hx hb hts (fun w9 h9 => List.mem_cons_of_mem _ (List.mem_append_left _ (List.mem_append_right _ h9))) hown hK hP 0 rfl rfl 8 (by decide) (hts (.fieldLink RX4 32 "GlassHarpModel" "ahead" "LGlassHarpModel$State;") (List.mem_of_getElem? (i := 2) rfl)) (fun _ h9 => h9) rfl dX4_foresee_113 ?_
      refine gh_ci (va_runV (As := []) (rest := [.int 3, .ref q_3, .ref q_3]) ⟨hx, hb, hml, hown, hts⟩ (c_X3_cracked l G d (gm_go (gh_st r 0 (fun _ => 0)) (gm_bc t q) n nn b) x (a 0) (d 0) (gh_st r 0 (fun _ => 0)) n (hn) (hn16)) (cwV 0 hts gX4_foresee_X3_cracked rfl rfl rfl ⟨rfl, hdS_X3_cracked⟩ ⟨Nat.le_of_ble_eq_true rfl, Nat.le_of_ble_eq_true rfl⟩) (gh_rV hE (hP.sub (ws' := (wT G d (x 0) (gm_go (gh_st r 0 (fun _ => 0)) (gm_bc t q) n nn b)) ++ (wM G x (a 0) (d 0) (gh_st r 0 (fun _ => 0)))) [11, 12, 13, 14, 15, 16, 17, 0, 1, 2, 3] rfl) (ci := 3) (q0 := 0) rfl rfl) rfl rfl hl.1 rfl (lv_room (Nat.le_of_ble_eq_true rfl)) dX4_foresee_116 ⟨Nat.le_of_ble_eq_true rfl, Nat.le_of_ble_eq_true rfl⟩) ?_
      refine gh_is (f := upd (upd (upd (fun _ => 0) 0 (((gm_go (gh_st r 0 (fun _ => 0)) (gm_bc t q) n nn b) 1 0) - (t 1 0))) 1 (((gm_go (gh_st r 0 (fun _ => 0)) (gm_bc t q) n nn b) 2 0) - (t 2 0))) 2 (((gm_go (gh_st r 0 (fun _ => 0)) (gm_bc t q) n nn b) 3 0) - (t 3 0))) (ws' := (wM G x (a 0) (d 0) (gh_st r 0 (fun _ => 0))) ++ (wT G a (x 0) t) ++ (wT G d (x 0) (gm_go (gh_st r 0 (fun _ => 0)) (gm_bc t q) n nn b)) ++ ([(q_3, .inl (G.2.1, 4, .inl (upd (upd (upd (upd (fun _ => 0) 0 (((gm_go (gh_st r 0 (fun _ => 0)) (gm_bc t q) n nn b) 1 0) - (t 1 0))) 1 (((gm_go (gh_st r 0 (fun _ => 0)) (gm_bc t q) n nn b) 2 0) - (t 2 0))) 2 (((gm_go (gh_st r 0 (fun _ => 0)) (gm_bc t q) n nn b) 3 0) - (t 3 0))) 3 (gh_sm ((gm_go (gh_st r 0 (fun _ => 0)) (gm_bc t q) n nn b) 7) n))))])) hx hb hK hP hD hS 18 0 rfl rfl 3 (rfl) (by decide) (by decide) dX4_foresee_119 rfl (fun H locs hP hD hS => ?_)
      refine lv_astore_n (lv' := [(3, .ref q_3), (0, .ref (x 0)), (1, .int y), (2, .int z)]) hx hb dX4_foresee_120 rfl hl (by decide) rfl (fun ls hl => ?_)
      refine lv_aload_n hx hb dX4_foresee_121 rfl (lv_at hl 0 rfl) ?_
      refine lv_iload_n hx hb dX4_foresee_122 rfl (lv_at hl 3 rfl) ?_
      refine gh_vv (y := nI w) (ew) ?_
      refine gh_ia (f := upd (upd (upd (upd (fun _ => 0) 0 (((gm_go (gh_st r 0 (fun _ => 0)) (gm_bc t q) n nn b) 1 0) - (t 1 0))) 1 (((gm_go (gh_st r 0 (fun _ => 0)) (gm_bc t q) n nn b) 2 0) - (t 2 0))) 2 (((gm_go (gh_st r 0 (fun _ => 0)) (gm_bc t q) n nn b) 3 0) - (t 3 0))) 3 (gh_sm ((gm_go (gh_st r 0 (fun _ => 0)) (gm_bc t q) n nn b) 7) n)) hx hb hK hP 18 0 rfl rfl w (rfl) (by omega) (by decide) dX4_foresee_123 ?_
      have hP := hP.sub (ws' := (wM G x (a 0) (d 0) (gh_st r 0 (fun _ => 0))) ++ (wT G a (x 0) t) ++ (wT G d (x 0) (gm_go (gh_st r 0 (fun _ => 0)) (gm_bc t q) n nn b))) [0, 1, 2, 3, 4, 5, 6, 7, 8, 9, 10, 11, 12, 13, 14, 15, 16, 17] rfl
      have hP9 : va_P G.1 vwCl ((wM G x (a 0) (d 0) (gm_k3 (gm_no r 1) (gm_no r 2) (gm_z r) (gh_iw y 1 150) (gh_iw z 0 3))) ++ (wT G a (x 0) t) ++ (wT G d (x 0) (gm_go (gh_st r 0 (fun _ => 0)) (gm_bc t q) n nn b))) H := by
        have e9 : (gh_st r 0 (fun _ => 0)) = gm_k3 (gm_no r 1) (gm_no r 2) (gm_z r) (gh_iw y 1 150) (gh_iw z 0 3) := by first | (simp only [gm_k3, gm_fs, gm_no, gm_z, c_1, ebc, c_2, ewc, ↓reduceIte, if_true, if_false]; done) | (simp only [gm_k3, gm_fs, gm_no, gm_z]; simp only [c_1, ebc, c_2, ewc, ↓reduceIte, if_true, if_false]; done) | (simp [gm_k3, gm_fs, gm_no, gm_z, c_1, ebc, c_2, ewc, ↓reduceIte, if_true, if_false]; done)
        rw [← e9]
        exact hP
      exact W.iret (v := (upd (upd (upd (upd (fun _ => 0) 0 (((gm_go (gh_st r 0 (fun _ => 0)) (gm_bc t q) n nn b) 1 0) - (t 1 0))) 1 (((gm_go (gh_st r 0 (fun _ => 0)) (gm_bc t q) n nn b) 2 0) - (t 2 0))) 2 (((gm_go (gh_st r 0 (fun _ => 0)) (gm_bc t q) n nn b) 3 0) - (t 3 0))) 3 (gh_sm ((gm_go (gh_st r 0 (fun _ => 0)) (gm_bc t q) n nn b) 7) n)) w) hx hb hr (fun t9 ht hW => ⟨⟨(upd (upd (upd (upd (fun _ => 0) 0 (((gm_go (gh_st r 0 (fun _ => 0)) (gm_bc t q) n nn b) 1 0) - (t 1 0))) 1 (((gm_go (gh_st r 0 (fun _ => 0)) (gm_bc t q) n nn b) 2 0) - (t 2 0))) 2 (((gm_go (gh_st r 0 (fun _ => 0)) (gm_bc t q) n nn b) 3 0) - (t 3 0))) 3 (gh_sm ((gm_go (gh_st r 0 (fun _ => 0)) (gm_bc t q) n nn b) 7) n)) w, (gm_go (gh_st r 0 (fun _ => 0)) (gm_bc t q) n nn b), rfl, by first | (simp only [gm_k3, gm_fs, gm_no, gm_z, c_1, ebc, c_2, ewc, ↓reduceIte, if_true, if_false]; done) | (simp only [gm_k3, gm_fs, gm_no, gm_z]; simp only [c_1, ebc, c_2, ewc, ↓reduceIte, if_true, if_false]; done) | (simp [gm_k3, gm_fs, gm_no, gm_z, c_1, ebc, c_2, ewc, ↓reduceIte, if_true, if_false]; done), gh_hp hP9 ht⟩, hS.F ht⟩) hS.2.2 dX4_foresee_124
    · skip
      refine lv_aload_n hx hb dX4_foresee_31 rfl (lv_at hl 0 rfl) ?_
      refine lv_iconst (v := 2) hx hb dX4_foresee_32 (by decide) ?_
      refine gh_cw (wr := (wT G a (x 0) t) ++ (wT G d (x 0) q)) (ws' := (wM G x (a 0) (d 0) (gh_st (gh_st r 0 (fun _ => 0)) 0 (fun _ => 2))) ++ (wT G a (x 0) t) ++ (wT G d (x 0) q)) (va_runV (As := [.int 2]) (rest := []) ⟨hx, hb, hml, hown, hts⟩ (c_X4_no l G H.size x (gh_st r 0 (fun _ => 0)) a t (d 0) 2) (cwV 1 hts gX4_foresee_X4_no rfl rfl rfl ⟨rfl, hdS_X4_no⟩ ⟨Nat.le_of_ble_eq_true rfl, Nat.le_of_ble_eq_true rfl⟩) (gh_wV hE (hP.sub (ws' := wM G x (a 0) (d 0) (gh_st r 0 (fun _ => 0))) [0, 1, 2, 3] rfl) (hD.sub (ws' := wM G x (a 0) (d 0) (gh_st r 0 (fun _ => 0))) [0, 1, 2, 3] (by decide) rfl) (ci := 4) (q0 := 0) rfl rfl) rfl rfl hl.1 rfl (lv_room (Nat.le_of_ble_eq_true rfl)) dX4_foresee_33 ⟨Nat.le_of_ble_eq_true rfl, Nat.le_of_ble_eq_true rfl⟩) hP hD hS hA [0, 1, 2, 3] [4, 5, 6, 7, 8, 9, 10, 11, 12, 13, 14, 15, 16, 17] [14, 15, 16, 17, 0, 1, 2, 3, 4, 5, 6, 7, 8, 9, 10, 11, 12, 13] rfl rfl (by decide) (by decide) (by decide) [x 0, x 3, x 5, x 6] [x 0, x 3, x 5, x 6, a 0, a 4, a 5, a 6, a 7, a 8, a 9, d 0, d 4, d 5, d 6, d 7, d 8, d 9] rfl rfl rfl rfl rfl (fun H locs hP hD hS => ?_)
      refine W.widen (k := 1) (n := 4) (by omega) (by omega) ?_
      have hP9 : va_P G.1 vwCl ((wM G x (a 0) (d 0) (gm_k3 (gm_no r 1) (gm_no r 2) (gm_z r) (gh_iw y 1 150) (gh_iw z 0 3))) ++ (wT G a (x 0) t) ++ (wT G d (x 0) q)) H := by
        have e9 : gh_st (gh_st r 0 (fun _ => 0)) 0 (fun _ => 2) = gm_k3 (gm_no r 1) (gm_no r 2) (gm_z r) (gh_iw y 1 150) (gh_iw z 0 3) := by first | (simp only [gm_k3, gm_fs, gm_no, gm_z, c_1, ebc, c_2, ↓reduceIte, if_true, if_false]; done) | (simp only [gm_k3, gm_fs, gm_no, gm_z]; simp only [c_1, ebc, c_2, ↓reduceIte, if_true, if_false]; done) | (simp [gm_k3, gm_fs, gm_no, gm_z, c_1, ebc, c_2, ↓reduceIte, if_true, if_false]; done)
        rw [← e9]
        exact hP
      exact W.iret (v := 0) hx hb hr (fun t9 ht hW => ⟨⟨0, q, rfl, by first | (simp only [gm_k3, gm_fs, gm_no, gm_z, c_1, ebc, c_2, ↓reduceIte, if_true, if_false]; done) | (simp only [gm_k3, gm_fs, gm_no, gm_z]; simp only [c_1, ebc, c_2, ↓reduceIte, if_true, if_false]; done) | (simp [gm_k3, gm_fs, gm_no, gm_z, c_1, ebc, c_2, ↓reduceIte, if_true, if_false]; done), gh_hp hP9 ht⟩, hS.F ht⟩) hS.2.2 dX4_foresee_36
  · skip
    refine lv_aload_n hx hb dX4_foresee_16 rfl (lv_at hl 0 rfl) ?_
    refine lv_iconst (v := 1) hx hb dX4_foresee_17 (by decide) ?_
    refine gh_cw (wr := (wT G a (x 0) t) ++ (wT G d (x 0) q)) (ws' := (wM G x (a 0) (d 0) (gh_st (gh_st r 0 (fun _ => 0)) 0 (fun _ => 1))) ++ (wT G a (x 0) t) ++ (wT G d (x 0) q)) (va_runV (As := [.int 1]) (rest := []) ⟨hx, hb, hml, hown, hts⟩ (c_X4_no l G H.size x (gh_st r 0 (fun _ => 0)) a t (d 0) 1) (cwV 1 hts gX4_foresee_X4_no rfl rfl rfl ⟨rfl, hdS_X4_no⟩ ⟨Nat.le_of_ble_eq_true rfl, Nat.le_of_ble_eq_true rfl⟩) (gh_wV hE (hP.sub (ws' := wM G x (a 0) (d 0) (gh_st r 0 (fun _ => 0))) [0, 1, 2, 3] rfl) (hD.sub (ws' := wM G x (a 0) (d 0) (gh_st r 0 (fun _ => 0))) [0, 1, 2, 3] (by decide) rfl) (ci := 4) (q0 := 0) rfl rfl) rfl rfl hl.1 rfl (lv_room (Nat.le_of_ble_eq_true rfl)) dX4_foresee_18 ⟨Nat.le_of_ble_eq_true rfl, Nat.le_of_ble_eq_true rfl⟩) hP hD hS hA [0, 1, 2, 3] [4, 5, 6, 7, 8, 9, 10, 11, 12, 13, 14, 15, 16, 17] [14, 15, 16, 17, 0, 1, 2, 3, 4, 5, 6, 7, 8, 9, 10, 11, 12, 13] rfl rfl (by decide) (by decide) (by decide) [x 0, x 3, x 5, x 6] [x 0, x 3, x 5, x 6, a 0, a 4, a 5, a 6, a 7, a 8, a 9, d 0, d 4, d 5, d 6, d 7, d 8, d 9] rfl rfl rfl rfl rfl (fun H locs hP hD hS => ?_)
    refine W.widen (k := 1) (n := 4) (by omega) (by omega) ?_
    have hP9 : va_P G.1 vwCl ((wM G x (a 0) (d 0) (gm_k3 (gm_no r 1) (gm_no r 2) (gm_z r) (gh_iw y 1 150) (gh_iw z 0 3))) ++ (wT G a (x 0) t) ++ (wT G d (x 0) q)) H := by
      have e9 : gh_st (gh_st r 0 (fun _ => 0)) 0 (fun _ => 1) = gm_k3 (gm_no r 1) (gm_no r 2) (gm_z r) (gh_iw y 1 150) (gh_iw z 0 3) := by first | (simp only [gm_k3, gm_fs, gm_no, gm_z, c_1, ↓reduceIte, if_true, if_false]; done) | (simp only [gm_k3, gm_fs, gm_no, gm_z]; simp only [c_1, ↓reduceIte, if_true, if_false]; done) | (simp [gm_k3, gm_fs, gm_no, gm_z, c_1, ↓reduceIte, if_true, if_false]; done)
      rw [← e9]
      exact hP
    exact W.iret (v := 0) hx hb hr (fun t9 ht hW => ⟨⟨0, q, rfl, by first | (simp only [gm_k3, gm_fs, gm_no, gm_z, c_1, ↓reduceIte, if_true, if_false]; done) | (simp only [gm_k3, gm_fs, gm_no, gm_z]; simp only [c_1, ↓reduceIte, if_true, if_false]; done) | (simp [gm_k3, gm_fs, gm_no, gm_z, c_1, ↓reduceIte, if_true, if_false]; done), gh_hp hP9 ht⟩, hS.F ht⟩) hS.2.2 dX4_foresee_21
set_option maxHeartbeats 4000000 in
set_option maxRecDepth 100000 in
theorem c_X4_advise (l : Launch) (G : gh_G) (sz : Nat) (x : Nat → Nat) (r : gh_B) (a : Nat → Nat) (t : gh_B) (d : Nat → Nat) (q : gh_B) (n : Nat) (nn : Nat) (ff : Nat → Int32) (f0 : Int32) (y : Int32) (z : Int32) (hn : r 4 0 = nI n) (hn16 : n ≤ 16) (hsz : ∀ j : Nat, j < n → ¬ 4 * r 6 j = 0) (hrw : ∀ j : Nat, j < n → vp_in (r 5 j) 4) (hz : r 2 0 = nI nn) (hz32 : nn ≤ 32) (hln : ¬ r 1 0 = 0) (hf0 : ∀ q9 : gh_B, gm_go (gh_st r 0 (fun _ => 0)) (gm_bc t q9) n nn z.toNatClampNeg 2 0 = f0) (hF : ∀ (q9 : gh_B) (i : Nat), i < n → ¬ t 7 i = 1 → ¬ gm_nd (gh_st r 0 (fun _ => 0)) i y = -1 → gm_go (gh_st r 0 (fun _ => 0)) (gh_st (gm_bc t q9) 6 (upd (gm_bc t q9 6) i (gm_nd (gh_st r 0 (fun _ => 0)) i y))) n nn z.toNatClampNeg 2 0 = ff i) : Met l yX4_advise wsX4_advise ({ frames := 6, cells := 0, slots := 0, locals := 131 } : Room) (gh_w G [.ref (x 0), .int y, .int z] ((wM G x (a 0) (d 0) r) ++ (wT G a (x 0) t) ++ (wT G d (x 0) q)) sz) (va_Qi (fun (r9 : Int32) (_ : gh_B) => r9 = gm_k2 0 (gm_av (t 7) ff (fun i => gm_nd (gh_st r 0 (fun _ => 0)) i y) f0 n).2 (gh_iw y 0 120) (gh_iw z 1 80)) (fun u t9 => va_P G.1 vwCl ((wM G x (a 0) (d 0) (gm_k2 (gm_no r 1) (gm_z r) (gh_iw y 0 120) (gh_iw z 1 80))) ++ (wT G a (x 0) t) ++ (wT G d (x 0) u)) t9.heap) (va_A ((wM G x (a 0) (d 0) r) ++ (wT G a (x 0) t) ++ (wT G d (x 0) q)) sz)) 0 0 (va_A ((wM G x (a 0) (d 0) r) ++ (wT G a (x 0) t) ++ (wT G d (x 0) q)) sz) := by
  refine Met.ofW (cc := cX4_advise) (maxL := 6) (ret := (some .int)) (by decide) rfl ?_
  intro p e s m args below meth c s₁ B hml hv
  obtain ⟨rfl, hsz, hP, hE, hD0⟩ := hv
  have hx := B.exec
  have hb := B.bytes
  have hr := B.returns
  have hts := atoms_spec (ws := wsX4_advise) B.pre
  have hown : s.vm.findClass RX4 = some m.cls := findClass_of_methodNamed B.named
  have hlocks := B.notSynchronized
  have hK := hE.1
  subst hsz
  have hD := hD0.self (sz := s.heap.size)
  generalize hAe : va_A ((wM G x (a 0) (d 0) r) ++ (wT G a (x 0) t) ++ (wT G d (x 0) q)) s.heap.size = A at hD ⊢
  have hA : ∀ q : Nat, s.heap.size ≤ q → A q := fun q h => by rw [← hAe]; exact Or.inr h
  have hS : va_S A s.heap s.heap [] := va_S.rf
  have hl := lv_entry ([.ref (x 0), .int y, .int z]) (n := 6) (Nat.le_of_ble_eq_true rfl)
  rw [lg_entry_eq]
  generalize (lg_sl ([.ref (x 0), .int y, .int z]) ++ List.replicate (6 - (lg_sl ([.ref (x 0), .int y, .int z])).length) Slot.unset).toArray = ls at hl ⊢
  have hl : lv_has ls 6 [(0, .ref (x 0)), (1, .int y), (2, .int z)] := hl
  refine lv_aload_n hx hb dX4_advise_0 rfl (lv_at hl 0 rfl) ?_
  refine lv_iconst (v := 0) hx hb dX4_advise_1 (by decide) ?_
  refine va_put (D := G.1) (ci := 4) (v := .int 0) (ty := .int) (C := RX4) (T := TX4) (N := 9) hx hb hts (fun w9 h9 => List.mem_cons_of_mem _ (List.mem_append_left _ (List.mem_append_right _ h9))) tyX4 tyX4_ok nmX4 hown hK hP hD hS 0 rfl rfl 0 (by decide) (hts (.fieldLink RX4 35 "GlassHarpModel" "thrown" "I") (List.mem_of_getElem? (i := 1) rfl)) (fun _ h9 => h9) rfl (tyX4_ok 0 (by decide)) rfl rfl (Nat.le_of_ble_eq_true rfl) dX4_advise_2 (fun H locs hP hD hS => ?_)
  have hP : va_P G.1 vwCl ((wM G x (a 0) (d 0) (gh_st r 0 (fun _ => 0))) ++ (wT G a (x 0) t) ++ (wT G d (x 0) q)) H := hP
  have hD : va_D A ((wM G x (a 0) (d 0) (gh_st r 0 (fun _ => 0))) ++ (wT G a (x 0) t) ++ (wT G d (x 0) q)) := hD
  refine lv_iload_n hx hb dX4_advise_5 rfl (lv_at hl 1 rfl) ?_
  refine lv_iconst (v := 0) hx hb dX4_advise_6 (by decide) ?_
  refine lv_bipush (v := 120) hx hb dX4_advise_7 (by decide) ?_
  refine gh_ci (va_runS (As := [.int y, .int 0, .int 120]) (rest := []) ⟨hx, hb, hml, hown, hts⟩ (c_X4_isIn l G y 0 120) (va_cwS 3 hts gX4_advise_X4_isIn rfl rfl rfl hdS_X4_isIn ⟨Nat.le_of_ble_eq_true rfl, Nat.le_of_ble_eq_true rfl⟩) (gh_rS hE (fun k q h => by simp at h)) rfl rfl hl.1 rfl (lv_room (Nat.le_of_ble_eq_true rfl)) dX4_advise_9 ⟨Nat.le_of_ble_eq_true rfl, Nat.le_of_ble_eq_true rfl⟩) ?_
  refine lv_if_eq (tgt := 25) hx hb dX4_advise_12 (by decide) (fun c_1 => ?_) (fun c_1 => ?_)
  · skip
    refine lv_aload_n hx hb dX4_advise_25 rfl (lv_at hl 0 rfl) ?_
    refine lv_iconst (v := 1) hx hb dX4_advise_26 (by decide) ?_
    refine gh_cw (wr := (wT G a (x 0) t) ++ (wT G d (x 0) q)) (ws' := (wM G x (a 0) (d 0) (gh_st (gh_st r 0 (fun _ => 0)) 0 (fun _ => 1))) ++ (wT G a (x 0) t) ++ (wT G d (x 0) q)) (va_runV (As := [.int 1]) (rest := []) ⟨hx, hb, hml, hown, hts⟩ (c_X4_no l G H.size x (gh_st r 0 (fun _ => 0)) a t (d 0) 1) (cwV 1 hts gX4_advise_X4_no rfl rfl rfl ⟨rfl, hdS_X4_no⟩ ⟨Nat.le_of_ble_eq_true rfl, Nat.le_of_ble_eq_true rfl⟩) (gh_wV hE (hP.sub (ws' := wM G x (a 0) (d 0) (gh_st r 0 (fun _ => 0))) [0, 1, 2, 3] rfl) (hD.sub (ws' := wM G x (a 0) (d 0) (gh_st r 0 (fun _ => 0))) [0, 1, 2, 3] (by decide) rfl) (ci := 4) (q0 := 0) rfl rfl) rfl rfl hl.1 rfl (lv_room (Nat.le_of_ble_eq_true rfl)) dX4_advise_27 ⟨Nat.le_of_ble_eq_true rfl, Nat.le_of_ble_eq_true rfl⟩) hP hD hS hA [0, 1, 2, 3] [4, 5, 6, 7, 8, 9, 10, 11, 12, 13, 14, 15, 16, 17] [14, 15, 16, 17, 0, 1, 2, 3, 4, 5, 6, 7, 8, 9, 10, 11, 12, 13] rfl rfl (by decide) (by decide) (by decide) [x 0, x 3, x 5, x 6] [x 0, x 3, x 5, x 6, a 0, a 4, a 5, a 6, a 7, a 8, a 9, d 0, d 4, d 5, d 6, d 7, d 8, d 9] rfl rfl rfl rfl rfl (fun H locs hP hD hS => ?_)
    have hP9 : va_P G.1 vwCl ((wM G x (a 0) (d 0) (gm_k2 (gm_no r 1) (gm_z r) (gh_iw y 0 120) (gh_iw z 1 80))) ++ (wT G a (x 0) t) ++ (wT G d (x 0) q)) H := by
      have e9 : gh_st (gh_st r 0 (fun _ => 0)) 0 (fun _ => 1) = gm_k2 (gm_no r 1) (gm_z r) (gh_iw y 0 120) (gh_iw z 1 80) := by first | (simp only [gm_k2, gm_no, gm_z, c_1, ↓reduceIte, if_true, if_false]; done) | (simp only [gm_k2, gm_no, gm_z]; simp only [c_1, ↓reduceIte, if_true, if_false]; done) | (simp [gm_k2, gm_no, gm_z, c_1, ↓reduceIte, if_true, if_false]; done)
      rw [← e9]
      exact hP
    exact W.iret (v := 0) hx hb hr (fun t9 ht hW => ⟨⟨0, q, rfl, by first | (simp only [gm_k2, gm_no, gm_z, c_1, ↓reduceIte, if_true, if_false]; done) | (simp only [gm_k2, gm_no, gm_z]; simp only [c_1, ↓reduceIte, if_true, if_false]; done) | (simp [gm_k2, gm_no, gm_z, c_1, ↓reduceIte, if_true, if_false]; done), gh_hp hP9 ht⟩, hS.F ht⟩) hS.2.2 dX4_advise_30
  · skip
    refine lv_iload_n hx hb dX4_advise_15 rfl (lv_at hl 2 rfl) ?_
    refine lv_iconst (v := 1) hx hb dX4_advise_16 (by decide) ?_
    refine lv_bipush (v := 80) hx hb dX4_advise_17 (by decide) ?_
    refine gh_ci (va_runS (As := [.int z, .int 1, .int 80]) (rest := []) ⟨hx, hb, hml, hown, hts⟩ (c_X4_isIn l G z 1 80) (va_cwS 3 hts gX4_advise_X4_isIn rfl rfl rfl hdS_X4_isIn ⟨Nat.le_of_ble_eq_true rfl, Nat.le_of_ble_eq_true rfl⟩) (gh_rS hE (fun k q h => by simp at h)) rfl rfl hl.1 rfl (lv_room (Nat.le_of_ble_eq_true rfl)) dX4_advise_19 ⟨Nat.le_of_ble_eq_true rfl, Nat.le_of_ble_eq_true rfl⟩) ?_
    refine lv_if_ne (tgt := 31) hx hb dX4_advise_22 (by decide) (fun c_2 => ?_) (fun c_2 => ?_)
    · skip
      obtain ⟨b, hb1, hb2, eb⟩ := gh_iw_r (a := 1) (b := 80) c_2 (by decide) (by decide) (by decide) (by decide)
      have ebc : z.toNatClampNeg = b := by rw [eb, nI_clamp (Nat.lt_of_le_of_lt hb2 (by decide))]
      refine lv_aload_n hx hb dX4_advise_31 rfl (lv_at hl 0 rfl) ?_
      refine va_get (D := G.1) (ci := 4) (v := .ref (d 0)) (C := RX4) (T := TX4) (N := 9) hx hb hts (fun w9 h9 => List.mem_cons_of_mem _ (List.mem_append_left _ (List.mem_append_right _ h9))) hown hK hP 0 rfl rfl 8 (by decide) (hts (.fieldLink RX4 32 "GlassHarpModel" "ahead" "LGlassHarpModel$State;") (List.mem_of_getElem? (i := 2) rfl)) (fun _ h9 => h9) rfl dX4_advise_32 ?_
      refine lv_aload_n hx hb dX4_advise_35 rfl (lv_at hl 0 rfl) ?_
      refine va_get (D := G.1) (ci := 4) (v := .ref (a 0)) (C := RX4) (T := TX4) (N := 9) hx hb hts (fun w9 h9 => List.mem_cons_of_mem _ (List.mem_append_left _ (List.mem_append_right _ h9))) hown hK hP 0 rfl rfl 7 (by decide) (hts (.fieldLink RX4 28 "GlassHarpModel" "s" "LGlassHarpModel$State;") (List.mem_of_getElem? (i := 3) rfl)) (fun _ h9 => h9) rfl dX4_advise_36 ?_
      refine gh_cv (wr := wM G x (a 0) (d 0) (gh_st r 0 (fun _ => 0))) (ws' := (wM G x (a 0) (d 0) (gh_st r 0 (fun _ => 0))) ++ (wT G a (x 0) t) ++ (wT G d (x 0) (gm_bc t q))) (va_runV (As := [.ref (a 0)]) (rest := []) ⟨hx, hb, hml, hown, hts⟩ (c_X3_become l G H.size d q a t (x 0)) (cwV 1 hts gX4_advise_X3_become rfl rfl rfl ⟨rfl, hdS_X3_become⟩ ⟨Nat.le_of_ble_eq_true rfl, Nat.le_of_ble_eq_true rfl⟩) (gh_wV hE (hP.sub (ws' := (wT G d (x 0) q) ++ (wT G a (x 0) t)) [11, 12, 13, 14, 15, 16, 17, 4, 5, 6, 7, 8, 9, 10] rfl) (hD.sub (ws' := (wT G d (x 0) q) ++ (wT G a (x 0) t)) [11, 12, 13, 14, 15, 16, 17, 4, 5, 6, 7, 8, 9, 10] (by decide) rfl) (ci := 3) (q0 := 0) rfl rfl) rfl rfl hl.1 rfl (lv_room (Nat.le_of_ble_eq_true rfl)) dX4_advise_39 ⟨Nat.le_of_ble_eq_true rfl, Nat.le_of_ble_eq_true rfl⟩) hP hD hS hA [11, 12, 13, 14, 15, 16, 17, 4, 5, 6, 7, 8, 9, 10] [0, 1, 2, 3] [0, 1, 2, 3, 11, 12, 13, 14, 15, 16, 17, 4, 5, 6, 7, 8, 9, 10] rfl rfl (by decide) (by decide) (by decide) [d 0, d 4, d 5, d 6, d 7, d 8, d 9, a 0, a 4, a 5, a 6, a 7, a 8, a 9] [x 0, x 3, x 5, x 6, a 0, a 4, a 5, a 6, a 7, a 8, a 9, d 0, d 4, d 5, d 6, d 7, d 8, d 9] rfl rfl rfl rfl rfl (fun H locs hP hD hS => ?_)
      refine lv_aload_n hx hb dX4_advise_42 rfl (lv_at hl 0 rfl) ?_
      refine lv_iload_n hx hb dX4_advise_43 rfl (lv_at hl 2 rfl) ?_
      refine gh_vv (y := nI b) (eb) ?_
      refine gh_cv (wr := wT G a (x 0) t) (ws' := (wM G x (a 0) (d 0) (gh_st r 0 (fun _ => 0))) ++ (wT G a (x 0) t) ++ (wT G d (x 0) (gm_go (gh_st r 0 (fun _ => 0)) (gm_bc t q) n nn b))) (va_runV (As := [.int (nI b)]) (rest := []) ⟨hx, hb, hml, hown, hts⟩ (c_X4_run l G H.size x (a 0) (gh_st r 0 (fun _ => 0)) d (gm_bc t q) n nn b (hn) (hn16) (hsz) (hrw) (hz) (hz32) (hln) (Nat.lt_of_le_of_lt hb2 (by decide))) (cwV 1 hts gX4_advise_X4_run rfl rfl rfl ⟨rfl, hdS_X4_run⟩ ⟨Nat.le_of_ble_eq_true rfl, Nat.le_of_ble_eq_true rfl⟩) (gh_wV hE (hP.sub (ws' := (wM G x (a 0) (d 0) (gh_st r 0 (fun _ => 0))) ++ (wT G d (x 0) (gm_bc t q))) [0, 1, 2, 3, 11, 12, 13, 14, 15, 16, 17] rfl) (hD.sub (ws' := (wM G x (a 0) (d 0) (gh_st r 0 (fun _ => 0))) ++ (wT G d (x 0) (gm_bc t q))) [0, 1, 2, 3, 11, 12, 13, 14, 15, 16, 17] (by decide) rfl) (ci := 4) (q0 := 0) rfl rfl) rfl rfl hl.1 rfl (lv_room (Nat.le_of_ble_eq_true rfl)) dX4_advise_44 ⟨Nat.le_of_ble_eq_true rfl, Nat.le_of_ble_eq_true rfl⟩) hP hD hS hA [0, 1, 2, 3, 11, 12, 13, 14, 15, 16, 17] [4, 5, 6, 7, 8, 9, 10] [7, 8, 9, 10, 0, 1, 2, 3, 4, 5, 6, 11, 12, 13, 14, 15, 16, 17] rfl rfl (by decide) (by decide) (by decide) [x 0, x 3, x 5, x 6, d 0, d 4, d 5, d 6, d 7, d 8, d 9] [x 0, x 3, x 5, x 6, a 0, a 4, a 5, a 6, a 7, a 8, a 9, d 0, d 4, d 5, d 6, d 7, d 8, d 9] rfl rfl rfl rfl rfl (fun H locs hP hD hS => ?_)
      refine lv_aload_n hx hb dX4_advise_47 rfl (lv_at hl 0 rfl) ?_
      refine va_get (D := G.1) (ci := 4) (v := .ref (d 0)) (C := RX4) (T := TX4) (N := 9) hx hb hts (fun w9 h9 => List.mem_cons_of_mem _ (List.mem_append_left _ (List.mem_append_right _ h9))) hown hK hP 0 rfl rfl 8 (by decide) (hts (.fieldLink RX4 32 "GlassHarpModel" "ahead" "LGlassHarpModel$State;") (List.mem_of_getElem? (i := 2) rfl)) (fun _ h9 => h9) rfl dX4_advise_48 ?_
      refine va_getN (D := G.1) (ci := 3) (v := .int ((gm_go (gh_st r 0 (fun _ => 0)) (gm_bc t q) n nn b) 2 0)) (C := RX3) (T := TX3) (N := 12) hx hb hts (fun w9 h9 => List.mem_cons_of_mem _ (List.mem_append_right _ h9)) hown hK hP 11 rfl rfl 2 (by decide) (va_Nw.use rfl (hE.2.2 (RX4, 113, "GlassHarpModel$State", "tuned", "I", RX4) (List.mem_of_getElem? (i := 24) rfl))) (fun _ h9 => h9) rfl dX4_advise_51 ?_
      refine gh_vv (y := f0) (by rw [← hf0 q, ebc]) ?_
      refine lv_istore_n (lv' := [(3, .int f0), (0, .ref (x 0)), (1, .int y), (2, .int z)]) hx hb dX4_advise_54 rfl hl (by decide) rfl (fun ls hl => ?_)
      refine lv_iconst (v := (-1)) hx hb dX4_advise_55 (by decide) ?_
      refine lv_istore (lv' := [(4, .int (-1)), (3, .int f0), (0, .ref (x 0)), (1, .int y), (2, .int z)]) hx hb dX4_advise_56 hl (by decide) rfl (fun ls hl => ?_)
      refine lv_iconst (v := 0) hx hb dX4_advise_58 (by decide) ?_
      refine lv_istore (lv' := [(5, .int 0), (4, .int (-1)), (3, .int f0), (0, .ref (x 0)), (1, .int y), (2, .int z)]) hx hb dX4_advise_59 hl (by decide) rfl (fun ls hl => ?_)
      have J61 : ∀ (x3 : Int32) (x4 : Int32) (Q : gh_B), (x3 = (gm_av (t 7) ff (fun i => gm_nd (gh_st r 0 (fun _ => 0)) i y) f0 0).1) → (x4 = (gm_av (t 7) ff (fun i => gm_nd (gh_st r 0 (fun _ => 0)) i y) f0 0).2) → ∀ (H : Heap) (locs : List Loc), va_P G.1 vwCl ((wM G x (a 0) (d 0) (gh_st r 0 (fun _ => 0))) ++ (wT G a (x 0) t) ++ (wT G d (x 0) Q)) H → va_D A ((wM G x (a 0) (d 0) (gh_st r 0 (fun _ => 0))) ++ (wT G a (x 0) t) ++ (wT G d (x 0) Q)) → va_S A s.heap H locs → ∀ (ls : Array Slot), lv_has ls 6 [(0, .ref (x 0)), (1, .int y), (2, .int z), (3, .int x3), (4, .int x4), (5, .int (nI 0))] → W p l e (headSpec wsX4_advise ({ frames := 6, cells := 0, slots := 0, locals := 131 } : Room)).room s m ([.ref (x 0), .int y, .int z] : List Value).toArray below meth c H locs 0 0 (MQ below (va_Qi (fun (r9 : Int32) (_ : gh_B) => r9 = gm_k2 0 (gm_av (t 7) ff (fun i => gm_nd (gh_st r 0 (fun _ => 0)) i y) f0 n).2 (gh_iw y 0 120) (gh_iw z 1 80)) (fun u t9 => va_P G.1 vwCl ((wM G x (a 0) (d 0) (gm_k2 (gm_no r 1) (gm_z r) (gh_iw y 0 120) (gh_iw z 1 80))) ++ (wT G a (x 0) t) ++ (wT G d (x 0) u)) t9.heap) A) ([.ref (x 0), .int y, .int z] : List Value).toArray s 0 0 A) (F0 m 61 ls []) := by
        refine gh_loop (n := n) (i0 := 0) (Nat.zero_le _) (P := fun i => ∀ (x3 : Int32) (x4 : Int32) (Q : gh_B), (x3 = (gm_av (t 7) ff (fun i => gm_nd (gh_st r 0 (fun _ => 0)) i y) f0 i).1) → (x4 = (gm_av (t 7) ff (fun i => gm_nd (gh_st r 0 (fun _ => 0)) i y) f0 i).2) → ∀ (H : Heap) (locs : List Loc), va_P G.1 vwCl ((wM G x (a 0) (d 0) (gh_st r 0 (fun _ => 0))) ++ (wT G a (x 0) t) ++ (wT G d (x 0) Q)) H → va_D A ((wM G x (a 0) (d 0) (gh_st r 0 (fun _ => 0))) ++ (wT G a (x 0) t) ++ (wT G d (x 0) Q)) → va_S A s.heap H locs → ∀ (ls : Array Slot), lv_has ls 6 [(0, .ref (x 0)), (1, .int y), (2, .int z), (3, .int x3), (4, .int x4), (5, .int (nI i))] → W p l e (headSpec wsX4_advise ({ frames := 6, cells := 0, slots := 0, locals := 131 } : Room)).room s m ([.ref (x 0), .int y, .int z] : List Value).toArray below meth c H locs 0 0 (MQ below (va_Qi (fun (r9 : Int32) (_ : gh_B) => r9 = gm_k2 0 (gm_av (t 7) ff (fun i => gm_nd (gh_st r 0 (fun _ => 0)) i y) f0 n).2 (gh_iw y 0 120) (gh_iw z 1 80)) (fun u t9 => va_P G.1 vwCl ((wM G x (a 0) (d 0) (gm_k2 (gm_no r 1) (gm_z r) (gh_iw y 0 120) (gh_iw z 1 80))) ++ (wT G a (x 0) t) ++ (wT G d (x 0) u)) t9.heap) A) ([.ref (x 0), .int y, .int z] : List Value).toArray s 0 0 A) (F0 m 61 ls [])) ?_ ?_
        · skip
          intro x3 x4 Q e3 e4 H locs hP hD hS ls hl
          subst e3
          subst e4
          refine lv_iload hx hb dX4_advise_61 (lv_at hl 5 rfl) ?_
          refine lv_aload_n hx hb dX4_advise_63 rfl (lv_at hl 0 rfl) ?_
          refine va_get (D := G.1) (ci := 4) (v := .int (r 4 0)) (C := RX4) (T := TX4) (N := 9) hx hb hts (fun w9 h9 => List.mem_cons_of_mem _ (List.mem_append_left _ (List.mem_append_right _ h9))) hown hK hP 0 rfl rfl 4 (by decide) (hts (.fieldLink RX4 38 "GlassHarpModel" "glasses" "I") (List.mem_of_getElem? (i := 4) rfl)) (fun _ h9 => h9) rfl dX4_advise_64 ?_
          refine gh_vv (y := nI n) (hn) ?_
          refine lv_icmp_ge (tgt := 163) hx hb dX4_advise_67 (by decide) (fun c_3 => ?_) (fun c_3 => absurd (nI_le (Nat.le_refl _) (Nat.lt_of_le_of_lt hn16 (by decide))) c_3)
          refine lv_iload hx hb dX4_advise_163 (lv_at hl 4 rfl) ?_
          have hP9 : va_P G.1 vwCl ((wM G x (a 0) (d 0) (gm_k2 (gm_no r 1) (gm_z r) (gh_iw y 0 120) (gh_iw z 1 80))) ++ (wT G a (x 0) t) ++ (wT G d (x 0) Q)) H := by
            have e9 : gh_st r 0 (fun _ => 0) = gm_k2 (gm_no r 1) (gm_z r) (gh_iw y 0 120) (gh_iw z 1 80) := by first | (simp only [gm_k2, gm_no, gm_z, c_1, c_2, ebc, c_3, ↓reduceIte, if_true, if_false]; done) | (simp only [gm_k2, gm_no, gm_z]; simp only [c_1, c_2, ebc, c_3, ↓reduceIte, if_true, if_false]; done) | (simp [gm_k2, gm_no, gm_z, c_1, c_2, ebc, c_3, ↓reduceIte, if_true, if_false]; done)
            rw [← e9]
            exact hP
          exact W.iret (v := (gm_av (t 7) ff (fun i => gm_nd (gh_st r 0 (fun _ => 0)) i y) f0 n).2) hx hb hr (fun t9 ht hW => ⟨⟨(gm_av (t 7) ff (fun i => gm_nd (gh_st r 0 (fun _ => 0)) i y) f0 n).2, Q, rfl, by first | (simp only [gm_k2, gm_no, gm_z, c_1, c_2, ebc, c_3, ↓reduceIte, if_true, if_false]; done) | (simp only [gm_k2, gm_no, gm_z]; simp only [c_1, c_2, ebc, c_3, ↓reduceIte, if_true, if_false]; done) | (simp [gm_k2, gm_no, gm_z, c_1, c_2, ebc, c_3, ↓reduceIte, if_true, if_false]; done), gh_hp hP9 ht⟩, hS.F ht⟩) hS.2.2 dX4_advise_165
        · intro i hi_lo hi ih
          intro x3 x4 Q e3 e4 H locs hP hD hS ls hl
          subst e3
          subst e4
          refine lv_iload hx hb dX4_advise_61 (lv_at hl 5 rfl) ?_
          refine lv_aload_n hx hb dX4_advise_63 rfl (lv_at hl 0 rfl) ?_
          refine va_get (D := G.1) (ci := 4) (v := .int (r 4 0)) (C := RX4) (T := TX4) (N := 9) hx hb hts (fun w9 h9 => List.mem_cons_of_mem _ (List.mem_append_left _ (List.mem_append_right _ h9))) hown hK hP 0 rfl rfl 4 (by decide) (hts (.fieldLink RX4 38 "GlassHarpModel" "glasses" "I") (List.mem_of_getElem? (i := 4) rfl)) (fun _ h9 => h9) rfl dX4_advise_64 ?_
          refine gh_vv (y := nI n) (hn) ?_
          refine lv_icmp_ge (tgt := 163) hx hb dX4_advise_67 (by decide) (fun c_4 => absurd c_4 (nI_ge hi (Nat.lt_of_le_of_lt hn16 (by decide)))) (fun c_4 => ?_)
          refine lv_aload_n hx hb dX4_advise_70 rfl (lv_at hl 0 rfl) ?_
          refine va_get (D := G.1) (ci := 4) (v := .ref (a 0)) (C := RX4) (T := TX4) (N := 9) hx hb hts (fun w9 h9 => List.mem_cons_of_mem _ (List.mem_append_left _ (List.mem_append_right _ h9))) hown hK hP 0 rfl rfl 7 (by decide) (hts (.fieldLink RX4 28 "GlassHarpModel" "s" "LGlassHarpModel$State;") (List.mem_of_getElem? (i := 3) rfl)) (fun _ h9 => h9) rfl dX4_advise_71 ?_
          refine va_getN (D := G.1) (ci := 3) (v := .ref (a 7)) (C := RX3) (T := TX3) (N := 12) hx hb hts (fun w9 h9 => List.mem_cons_of_mem _ (List.mem_append_right _ h9)) hown hK hP 4 rfl rfl 7 (by decide) (va_Nw.use rfl (hE.2.2 (RX4, 59, "GlassHarpModel$State", "broken", "[I", RX4) (List.mem_of_getElem? (i := 29) rfl))) (fun _ h9 => h9) rfl dX4_advise_74 ?_
          refine lv_iload hx hb dX4_advise_77 (lv_at hl 5 rfl) ?_
          refine gh_ia (f := t 7) hx hb hK hP 8 0 rfl rfl i (rfl) (Nat.lt_of_lt_of_le hi hn16) (by decide) dX4_advise_79 ?_
          refine lv_iconst (v := 1) hx hb dX4_advise_80 (by decide) ?_
          refine lv_icmp_eq (tgt := 157) hx hb dX4_advise_81 (by decide) (fun c_5 => ?_) (fun c_5 => ?_)
          · skip
            refine lv_iinc (v := nI (i + 1)) (lv' := [(5, .int (nI (i + 1))), (0, .ref (x 0)), (1, .int y), (2, .int z), (3, .int ((gm_av (t 7) ff (fun i => gm_nd (gh_st r 0 (fun _ => 0)) i y) f0 i).1)), (4, .int ((gm_av (t 7) ff (fun i => gm_nd (gh_st r 0 (fun _ => 0)) i y) f0 i).2))]) hx hb dX4_advise_157 hl (k := 5) rfl (nI_1 i) (by decide) rfl (fun ls hl => ?_)
            refine lv_goto (tgt := 61) hx hb dX4_advise_160 (by decide) ?_
            exact ih ((gm_av (t 7) ff (fun i => gm_nd (gh_st r 0 (fun _ => 0)) i y) f0 i).1) ((gm_av (t 7) ff (fun i => gm_nd (gh_st r 0 (fun _ => 0)) i y) f0 i).2) Q (by first | (simp only [gm_av, c_1, c_2, ebc, c_4, c_5, ↓reduceIte, if_true, if_false]; done) | (simp only [gm_av]; simp only [c_1, c_2, ebc, c_4, c_5, ↓reduceIte, if_true, if_false]; done) | (simp [gm_av, c_1, c_2, ebc, c_4, c_5, ↓reduceIte, if_true, if_false]; done)) (by first | (simp only [gm_av, c_1, c_2, ebc, c_4, c_5, ↓reduceIte, if_true, if_false]; done) | (simp only [gm_av]; simp only [c_1, c_2, ebc, c_4, c_5, ↓reduceIte, if_true, if_false]; done) | (simp [gm_av, c_1, c_2, ebc, c_4, c_5, ↓reduceIte, if_true, if_false]; done)) _ _ hP hD hS _ (lv_sub hl [1, 2, 3, 4, 5, 0] rfl)
          · skip
            refine lv_aload_n hx hb dX4_advise_84 rfl (lv_at hl 0 rfl) ?_
            refine lv_iload hx hb dX4_advise_85 (lv_at hl 5 rfl) ?_
            refine lv_iload_n hx hb dX4_advise_87 rfl (lv_at hl 1 rfl) ?_
            refine gh_ci (va_runV (As := [.int (nI i), .int y]) (rest := []) ⟨hx, hb, hml, hown, hts⟩ (c_X4_needed l G x (gh_st r 0 (fun _ => 0)) a t (d 0) i y (Nat.lt_of_lt_of_le hi hn16)) (cwV 2 hts gX4_advise_X4_needed rfl rfl rfl ⟨rfl, hdS_X4_needed⟩ ⟨Nat.le_of_ble_eq_true rfl, Nat.le_of_ble_eq_true rfl⟩) (gh_rV hE (hP.sub (ws' := wM G x (a 0) (d 0) (gh_st r 0 (fun _ => 0))) [0, 1, 2, 3] rfl) (ci := 4) (q0 := 0) rfl rfl) rfl rfl hl.1 rfl (lv_room (Nat.le_of_ble_eq_true rfl)) dX4_advise_88 ⟨Nat.le_of_ble_eq_true rfl, Nat.le_of_ble_eq_true rfl⟩) ?_
            refine lv_iconst (v := (-1)) hx hb dX4_advise_91 (by decide) ?_
            refine lv_icmp_ne (tgt := 98) hx hb dX4_advise_92 (by decide) (fun c_6 => ?_) (fun c_6 => ?_)
            · skip
              refine lv_aload_n hx hb dX4_advise_98 rfl (lv_at hl 0 rfl) ?_
              refine va_get (D := G.1) (ci := 4) (v := .ref (d 0)) (C := RX4) (T := TX4) (N := 9) hx hb hts (fun w9 h9 => List.mem_cons_of_mem _ (List.mem_append_left _ (List.mem_append_right _ h9))) hown hK hP 0 rfl rfl 8 (by decide) (hts (.fieldLink RX4 32 "GlassHarpModel" "ahead" "LGlassHarpModel$State;") (List.mem_of_getElem? (i := 2) rfl)) (fun _ h9 => h9) rfl dX4_advise_99 ?_
              refine lv_aload_n hx hb dX4_advise_102 rfl (lv_at hl 0 rfl) ?_
              refine va_get (D := G.1) (ci := 4) (v := .ref (a 0)) (C := RX4) (T := TX4) (N := 9) hx hb hts (fun w9 h9 => List.mem_cons_of_mem _ (List.mem_append_left _ (List.mem_append_right _ h9))) hown hK hP 0 rfl rfl 7 (by decide) (hts (.fieldLink RX4 28 "GlassHarpModel" "s" "LGlassHarpModel$State;") (List.mem_of_getElem? (i := 3) rfl)) (fun _ h9 => h9) rfl dX4_advise_103 ?_
              refine gh_cv (wr := wM G x (a 0) (d 0) (gh_st r 0 (fun _ => 0))) (ws' := (wM G x (a 0) (d 0) (gh_st r 0 (fun _ => 0))) ++ (wT G a (x 0) t) ++ (wT G d (x 0) (gm_bc t Q))) (va_runV (As := [.ref (a 0)]) (rest := []) ⟨hx, hb, hml, hown, hts⟩ (c_X3_become l G H.size d Q a t (x 0)) (cwV 1 hts gX4_advise_X3_become rfl rfl rfl ⟨rfl, hdS_X3_become⟩ ⟨Nat.le_of_ble_eq_true rfl, Nat.le_of_ble_eq_true rfl⟩) (gh_wV hE (hP.sub (ws' := (wT G d (x 0) Q) ++ (wT G a (x 0) t)) [11, 12, 13, 14, 15, 16, 17, 4, 5, 6, 7, 8, 9, 10] rfl) (hD.sub (ws' := (wT G d (x 0) Q) ++ (wT G a (x 0) t)) [11, 12, 13, 14, 15, 16, 17, 4, 5, 6, 7, 8, 9, 10] (by decide) rfl) (ci := 3) (q0 := 0) rfl rfl) rfl rfl hl.1 rfl (lv_room (Nat.le_of_ble_eq_true rfl)) dX4_advise_106 ⟨Nat.le_of_ble_eq_true rfl, Nat.le_of_ble_eq_true rfl⟩) hP hD hS hA [11, 12, 13, 14, 15, 16, 17, 4, 5, 6, 7, 8, 9, 10] [0, 1, 2, 3] [0, 1, 2, 3, 11, 12, 13, 14, 15, 16, 17, 4, 5, 6, 7, 8, 9, 10] rfl rfl (by decide) (by decide) (by decide) [d 0, d 4, d 5, d 6, d 7, d 8, d 9, a 0, a 4, a 5, a 6, a 7, a 8, a 9] [x 0, x 3, x 5, x 6, a 0, a 4, a 5, a 6, a 7, a 8, a 9, d 0, d 4, d 5, d 6, d 7, d 8, d 9] rfl rfl rfl rfl rfl (fun H locs hP hD hS => ?_)
              refine lv_aload_n hx hb dX4_advise_109 rfl (lv_at hl 0 rfl) ?_
              refine va_get (D := G.1) (ci := 4) (v := .ref (d 0)) (C := RX4) (T := TX4) (N := 9) hx hb hts (fun w9 h9 => List.mem_cons_of_mem _ (List.mem_append_left _ (List.mem_append_right _ h9))) hown hK hP 0 rfl rfl 8 (by decide) (hts (.fieldLink RX4 32 "GlassHarpModel" "ahead" "LGlassHarpModel$State;") (List.mem_of_getElem? (i := 2) rfl)) (fun _ h9 => h9) rfl dX4_advise_110 ?_
              refine va_getN (D := G.1) (ci := 3) (v := .ref (d 6)) (C := RX3) (T := TX3) (N := 12) hx hb hts (fun w9 h9 => List.mem_cons_of_mem _ (List.mem_append_right _ h9)) hown hK hP 11 rfl rfl 6 (by decide) (va_Nw.use rfl (hE.2.2 (RX4, 53, "GlassHarpModel$State", "drops", "[I", RX4) (List.mem_of_getElem? (i := 28) rfl))) (fun _ h9 => h9) rfl dX4_advise_113 ?_
              refine lv_iload hx hb dX4_advise_116 (lv_at hl 5 rfl) ?_
              refine lv_aload_n hx hb dX4_advise_118 rfl (lv_at hl 0 rfl) ?_
              refine lv_iload hx hb dX4_advise_119 (lv_at hl 5 rfl) ?_
              refine lv_iload_n hx hb dX4_advise_121 rfl (lv_at hl 1 rfl) ?_
              refine gh_ci (va_runV (As := [.int (nI i), .int y]) (rest := [.int (nI i), .ref (d 6)]) ⟨hx, hb, hml, hown, hts⟩ (c_X4_needed l G x (gh_st r 0 (fun _ => 0)) a t (d 0) i y (Nat.lt_of_lt_of_le hi hn16)) (cwV 2 hts gX4_advise_X4_needed rfl rfl rfl ⟨rfl, hdS_X4_needed⟩ ⟨Nat.le_of_ble_eq_true rfl, Nat.le_of_ble_eq_true rfl⟩) (gh_rV hE (hP.sub (ws' := wM G x (a 0) (d 0) (gh_st r 0 (fun _ => 0))) [0, 1, 2, 3] rfl) (ci := 4) (q0 := 0) rfl rfl) rfl rfl hl.1 rfl (lv_room (Nat.le_of_ble_eq_true rfl)) dX4_advise_122 ⟨Nat.le_of_ble_eq_true rfl, Nat.le_of_ble_eq_true rfl⟩) ?_
              refine gh_is (f := (gm_bc t Q) 6) (ws' := (wM G x (a 0) (d 0) (gh_st r 0 (fun _ => 0))) ++ (wT G a (x 0) t) ++ (wT G d (x 0) (gh_st (gm_bc t Q) 6 (upd ((gm_bc t Q) 6) i (gm_nd (gh_st r 0 (fun _ => 0)) i y))))) hx hb hK hP hD hS 14 0 rfl rfl i (rfl) (Nat.lt_of_lt_of_le hi hn16) (by decide) dX4_advise_125 rfl (fun H locs hP hD hS => ?_)
              refine lv_aload_n hx hb dX4_advise_126 rfl (lv_at hl 0 rfl) ?_
              refine lv_iload_n hx hb dX4_advise_127 rfl (lv_at hl 2 rfl) ?_
              refine gh_vv (y := nI b) (eb) ?_
              refine gh_cv (wr := wT G a (x 0) t) (ws' := (wM G x (a 0) (d 0) (gh_st r 0 (fun _ => 0))) ++ (wT G a (x 0) t) ++ (wT G d (x 0) (gm_go (gh_st r 0 (fun _ => 0)) (gh_st (gm_bc t Q) 6 (upd ((gm_bc t Q) 6) i (gm_nd (gh_st r 0 (fun _ => 0)) i y))) n nn b))) (va_runV (As := [.int (nI b)]) (rest := []) ⟨hx, hb, hml, hown, hts⟩ (c_X4_run l G H.size x (a 0) (gh_st r 0 (fun _ => 0)) d (gh_st (gm_bc t Q) 6 (upd ((gm_bc t Q) 6) i (gm_nd (gh_st r 0 (fun _ => 0)) i y))) n nn b (hn) (hn16) (hsz) (hrw) (hz) (hz32) (hln) (Nat.lt_of_le_of_lt hb2 (by decide))) (cwV 1 hts gX4_advise_X4_run rfl rfl rfl ⟨rfl, hdS_X4_run⟩ ⟨Nat.le_of_ble_eq_true rfl, Nat.le_of_ble_eq_true rfl⟩) (gh_wV hE (hP.sub (ws' := (wM G x (a 0) (d 0) (gh_st r 0 (fun _ => 0))) ++ (wT G d (x 0) (gh_st (gm_bc t Q) 6 (upd ((gm_bc t Q) 6) i (gm_nd (gh_st r 0 (fun _ => 0)) i y))))) [0, 1, 2, 3, 11, 12, 13, 14, 15, 16, 17] rfl) (hD.sub (ws' := (wM G x (a 0) (d 0) (gh_st r 0 (fun _ => 0))) ++ (wT G d (x 0) (gh_st (gm_bc t Q) 6 (upd ((gm_bc t Q) 6) i (gm_nd (gh_st r 0 (fun _ => 0)) i y))))) [0, 1, 2, 3, 11, 12, 13, 14, 15, 16, 17] (by decide) rfl) (ci := 4) (q0 := 0) rfl rfl) rfl rfl hl.1 rfl (lv_room (Nat.le_of_ble_eq_true rfl)) dX4_advise_128 ⟨Nat.le_of_ble_eq_true rfl, Nat.le_of_ble_eq_true rfl⟩) hP hD hS hA [0, 1, 2, 3, 11, 12, 13, 14, 15, 16, 17] [4, 5, 6, 7, 8, 9, 10] [7, 8, 9, 10, 0, 1, 2, 3, 4, 5, 6, 11, 12, 13, 14, 15, 16, 17] rfl rfl (by decide) (by decide) (by decide) [x 0, x 3, x 5, x 6, d 0, d 4, d 5, d 6, d 7, d 8, d 9] [x 0, x 3, x 5, x 6, a 0, a 4, a 5, a 6, a 7, a 8, a 9, d 0, d 4, d 5, d 6, d 7, d 8, d 9] rfl rfl rfl rfl rfl (fun H locs hP hD hS => ?_)
              refine lv_aload_n hx hb dX4_advise_131 rfl (lv_at hl 0 rfl) ?_
              refine va_get (D := G.1) (ci := 4) (v := .ref (d 0)) (C := RX4) (T := TX4) (N := 9) hx hb hts (fun w9 h9 => List.mem_cons_of_mem _ (List.mem_append_left _ (List.mem_append_right _ h9))) hown hK hP 0 rfl rfl 8 (by decide) (hts (.fieldLink RX4 32 "GlassHarpModel" "ahead" "LGlassHarpModel$State;") (List.mem_of_getElem? (i := 2) rfl)) (fun _ h9 => h9) rfl dX4_advise_132 ?_
              refine va_getN (D := G.1) (ci := 3) (v := .int ((gm_go (gh_st r 0 (fun _ => 0)) (gh_st (gm_bc t Q) 6 (upd ((gm_bc t Q) 6) i (gm_nd (gh_st r 0 (fun _ => 0)) i y))) n nn b) 2 0)) (C := RX3) (T := TX3) (N := 12) hx hb hts (fun w9 h9 => List.mem_cons_of_mem _ (List.mem_append_right _ h9)) hown hK hP 11 rfl rfl 2 (by decide) (va_Nw.use rfl (hE.2.2 (RX4, 113, "GlassHarpModel$State", "tuned", "I", RX4) (List.mem_of_getElem? (i := 24) rfl))) (fun _ h9 => h9) rfl dX4_advise_135 ?_
              refine gh_vv (y := ff i) (by rw [← hF Q i hi c_5 c_6, ebc]) ?_
              refine lv_iload_n hx hb dX4_advise_138 rfl (lv_at hl 3 rfl) ?_
              refine lv_icmp_gt (tgt := 145) hx hb dX4_advise_139 (by decide) (fun c_7 => ?_) (fun c_7 => ?_)
              · skip
                refine lv_aload_n hx hb dX4_advise_145 rfl (lv_at hl 0 rfl) ?_
                refine va_get (D := G.1) (ci := 4) (v := .ref (d 0)) (C := RX4) (T := TX4) (N := 9) hx hb hts (fun w9 h9 => List.mem_cons_of_mem _ (List.mem_append_left _ (List.mem_append_right _ h9))) hown hK hP 0 rfl rfl 8 (by decide) (hts (.fieldLink RX4 32 "GlassHarpModel" "ahead" "LGlassHarpModel$State;") (List.mem_of_getElem? (i := 2) rfl)) (fun _ h9 => h9) rfl dX4_advise_146 ?_
                refine va_getN (D := G.1) (ci := 3) (v := .int ((gm_go (gh_st r 0 (fun _ => 0)) (gh_st (gm_bc t Q) 6 (upd ((gm_bc t Q) 6) i (gm_nd (gh_st r 0 (fun _ => 0)) i y))) n nn b) 2 0)) (C := RX3) (T := TX3) (N := 12) hx hb hts (fun w9 h9 => List.mem_cons_of_mem _ (List.mem_append_right _ h9)) hown hK hP 11 rfl rfl 2 (by decide) (va_Nw.use rfl (hE.2.2 (RX4, 113, "GlassHarpModel$State", "tuned", "I", RX4) (List.mem_of_getElem? (i := 24) rfl))) (fun _ h9 => h9) rfl dX4_advise_149 ?_
                refine gh_vv (y := ff i) (by rw [← hF Q i hi c_5 c_6, ebc]) ?_
                refine lv_istore_n (lv' := [(3, .int (ff i)), (0, .ref (x 0)), (1, .int y), (2, .int z), (4, .int ((gm_av (t 7) ff (fun i => gm_nd (gh_st r 0 (fun _ => 0)) i y) f0 i).2)), (5, .int (nI i))]) hx hb dX4_advise_152 rfl hl (by decide) rfl (fun ls hl => ?_)
                refine lv_iload hx hb dX4_advise_153 (lv_at hl 5 rfl) ?_
                refine lv_istore (lv' := [(4, .int (nI i)), (3, .int (ff i)), (0, .ref (x 0)), (1, .int y), (2, .int z), (5, .int (nI i))]) hx hb dX4_advise_155 hl (by decide) rfl (fun ls hl => ?_)
                refine lv_iinc (v := nI (i + 1)) (lv' := [(5, .int (nI (i + 1))), (4, .int (nI i)), (3, .int (ff i)), (0, .ref (x 0)), (1, .int y), (2, .int z)]) hx hb dX4_advise_157 hl (k := 5) rfl (nI_1 i) (by decide) rfl (fun ls hl => ?_)
                refine lv_goto (tgt := 61) hx hb dX4_advise_160 (by decide) ?_
                exact ih (ff i) (nI i) (gm_go (gh_st r 0 (fun _ => 0)) (gh_st (gm_bc t Q) 6 (upd ((gm_bc t Q) 6) i (gm_nd (gh_st r 0 (fun _ => 0)) i y))) n nn b) (by first | (simp only [gm_av, c_1, c_2, ebc, c_4, c_5, c_6, c_7, ↓reduceIte, if_true, if_false]; done) | (simp only [gm_av]; simp only [c_1, c_2, ebc, c_4, c_5, c_6, c_7, ↓reduceIte, if_true, if_false]; done) | (simp [gm_av, c_1, c_2, ebc, c_4, c_5, c_6, c_7, ↓reduceIte, if_true, if_false]; done)) (by first | (simp only [gm_av, c_1, c_2, ebc, c_4, c_5, c_6, c_7, ↓reduceIte, if_true, if_false]; done) | (simp only [gm_av]; simp only [c_1, c_2, ebc, c_4, c_5, c_6, c_7, ↓reduceIte, if_true, if_false]; done) | (simp [gm_av, c_1, c_2, ebc, c_4, c_5, c_6, c_7, ↓reduceIte, if_true, if_false]; done)) _ _ hP hD hS _ (lv_sub hl [3, 4, 5, 2, 1, 0] rfl)
              · skip
                refine lv_goto (tgt := 157) hx hb dX4_advise_142 (by decide) ?_
                refine lv_iinc (v := nI (i + 1)) (lv' := [(5, .int (nI (i + 1))), (0, .ref (x 0)), (1, .int y), (2, .int z), (3, .int ((gm_av (t 7) ff (fun i => gm_nd (gh_st r 0 (fun _ => 0)) i y) f0 i).1)), (4, .int ((gm_av (t 7) ff (fun i => gm_nd (gh_st r 0 (fun _ => 0)) i y) f0 i).2))]) hx hb dX4_advise_157 hl (k := 5) rfl (nI_1 i) (by decide) rfl (fun ls hl => ?_)
                refine lv_goto (tgt := 61) hx hb dX4_advise_160 (by decide) ?_
                exact ih ((gm_av (t 7) ff (fun i => gm_nd (gh_st r 0 (fun _ => 0)) i y) f0 i).1) ((gm_av (t 7) ff (fun i => gm_nd (gh_st r 0 (fun _ => 0)) i y) f0 i).2) (gm_go (gh_st r 0 (fun _ => 0)) (gh_st (gm_bc t Q) 6 (upd ((gm_bc t Q) 6) i (gm_nd (gh_st r 0 (fun _ => 0)) i y))) n nn b) (by first | (simp only [gm_av, c_1, c_2, ebc, c_4, c_5, c_6, c_7, ↓reduceIte, if_true, if_false]; done) | (simp only [gm_av]; simp only [c_1, c_2, ebc, c_4, c_5, c_6, c_7, ↓reduceIte, if_true, if_false]; done) | (simp [gm_av, c_1, c_2, ebc, c_4, c_5, c_6, c_7, ↓reduceIte, if_true, if_false]; done)) (by first | (simp only [gm_av, c_1, c_2, ebc, c_4, c_5, c_6, c_7, ↓reduceIte, if_true, if_false]; done) | (simp only [gm_av]; simp only [c_1, c_2, ebc, c_4, c_5, c_6, c_7, ↓reduceIte, if_true, if_false]; done) | (simp [gm_av, c_1, c_2, ebc, c_4, c_5, c_6, c_7, ↓reduceIte, if_true, if_false]; done)) _ _ hP hD hS _ (lv_sub hl [1, 2, 3, 4, 5, 0] rfl)
            · skip
              refine lv_goto (tgt := 157) hx hb dX4_advise_95 (by decide) ?_
              refine lv_iinc (v := nI (i + 1)) (lv' := [(5, .int (nI (i + 1))), (0, .ref (x 0)), (1, .int y), (2, .int z), (3, .int ((gm_av (t 7) ff (fun i => gm_nd (gh_st r 0 (fun _ => 0)) i y) f0 i).1)), (4, .int ((gm_av (t 7) ff (fun i => gm_nd (gh_st r 0 (fun _ => 0)) i y) f0 i).2))]) hx hb dX4_advise_157 hl (k := 5) rfl (nI_1 i) (by decide) rfl (fun ls hl => ?_)
              refine lv_goto (tgt := 61) hx hb dX4_advise_160 (by decide) ?_
              exact ih ((gm_av (t 7) ff (fun i => gm_nd (gh_st r 0 (fun _ => 0)) i y) f0 i).1) ((gm_av (t 7) ff (fun i => gm_nd (gh_st r 0 (fun _ => 0)) i y) f0 i).2) Q (by first | (simp only [gm_av, c_1, c_2, ebc, c_4, c_5, c_6, ↓reduceIte, if_true, if_false]; done) | (simp only [gm_av]; simp only [c_1, c_2, ebc, c_4, c_5, c_6, ↓reduceIte, if_true, if_false]; done) | (simp [gm_av, c_1, c_2, ebc, c_4, c_5, c_6, ↓reduceIte, if_true, if_false]; done)) (by first | (simp only [gm_av, c_1, c_2, ebc, c_4, c_5, c_6, ↓reduceIte, if_true, if_false]; done) | (simp only [gm_av]; simp only [c_1, c_2, ebc, c_4, c_5, c_6, ↓reduceIte, if_true, if_false]; done) | (simp [gm_av, c_1, c_2, ebc, c_4, c_5, c_6, ↓reduceIte, if_true, if_false]; done)) _ _ hP hD hS _ (lv_sub hl [1, 2, 3, 4, 5, 0] rfl)
      exact J61 f0 (-1) (gm_go (gh_st r 0 (fun _ => 0)) (gm_bc t q) n nn b) (by first | (simp only [gm_av, c_1, c_2, ebc, ↓reduceIte, if_true, if_false]; done) | (simp only [gm_av]; simp only [c_1, c_2, ebc, ↓reduceIte, if_true, if_false]; done) | (simp [gm_av, c_1, c_2, ebc, ↓reduceIte, if_true, if_false]; done)) (by first | (simp only [gm_av, c_1, c_2, ebc, ↓reduceIte, if_true, if_false]; done) | (simp only [gm_av]; simp only [c_1, c_2, ebc, ↓reduceIte, if_true, if_false]; done) | (simp [gm_av, c_1, c_2, ebc, ↓reduceIte, if_true, if_false]; done)) _ _ hP hD hS _ (lv_sub hl [3, 4, 5, 2, 1, 0] rfl)
    · skip
      refine lv_aload_n hx hb dX4_advise_25 rfl (lv_at hl 0 rfl) ?_
      refine lv_iconst (v := 1) hx hb dX4_advise_26 (by decide) ?_
      refine gh_cw (wr := (wT G a (x 0) t) ++ (wT G d (x 0) q)) (ws' := (wM G x (a 0) (d 0) (gh_st (gh_st r 0 (fun _ => 0)) 0 (fun _ => 1))) ++ (wT G a (x 0) t) ++ (wT G d (x 0) q)) (va_runV (As := [.int 1]) (rest := []) ⟨hx, hb, hml, hown, hts⟩ (c_X4_no l G H.size x (gh_st r 0 (fun _ => 0)) a t (d 0) 1) (cwV 1 hts gX4_advise_X4_no rfl rfl rfl ⟨rfl, hdS_X4_no⟩ ⟨Nat.le_of_ble_eq_true rfl, Nat.le_of_ble_eq_true rfl⟩) (gh_wV hE (hP.sub (ws' := wM G x (a 0) (d 0) (gh_st r 0 (fun _ => 0))) [0, 1, 2, 3] rfl) (hD.sub (ws' := wM G x (a 0) (d 0) (gh_st r 0 (fun _ => 0))) [0, 1, 2, 3] (by decide) rfl) (ci := 4) (q0 := 0) rfl rfl) rfl rfl hl.1 rfl (lv_room (Nat.le_of_ble_eq_true rfl)) dX4_advise_27 ⟨Nat.le_of_ble_eq_true rfl, Nat.le_of_ble_eq_true rfl⟩) hP hD hS hA [0, 1, 2, 3] [4, 5, 6, 7, 8, 9, 10, 11, 12, 13, 14, 15, 16, 17] [14, 15, 16, 17, 0, 1, 2, 3, 4, 5, 6, 7, 8, 9, 10, 11, 12, 13] rfl rfl (by decide) (by decide) (by decide) [x 0, x 3, x 5, x 6] [x 0, x 3, x 5, x 6, a 0, a 4, a 5, a 6, a 7, a 8, a 9, d 0, d 4, d 5, d 6, d 7, d 8, d 9] rfl rfl rfl rfl rfl (fun H locs hP hD hS => ?_)
      have hP9 : va_P G.1 vwCl ((wM G x (a 0) (d 0) (gm_k2 (gm_no r 1) (gm_z r) (gh_iw y 0 120) (gh_iw z 1 80))) ++ (wT G a (x 0) t) ++ (wT G d (x 0) q)) H := by
        have e9 : gh_st (gh_st r 0 (fun _ => 0)) 0 (fun _ => 1) = gm_k2 (gm_no r 1) (gm_z r) (gh_iw y 0 120) (gh_iw z 1 80) := by first | (simp only [gm_k2, gm_no, gm_z, c_1, c_2, ↓reduceIte, if_true, if_false]; done) | (simp only [gm_k2, gm_no, gm_z]; simp only [c_1, c_2, ↓reduceIte, if_true, if_false]; done) | (simp [gm_k2, gm_no, gm_z, c_1, c_2, ↓reduceIte, if_true, if_false]; done)
        rw [← e9]
        exact hP
      exact W.iret (v := 0) hx hb hr (fun t9 ht hW => ⟨⟨0, q, rfl, by first | (simp only [gm_k2, gm_no, gm_z, c_1, c_2, ↓reduceIte, if_true, if_false]; done) | (simp only [gm_k2, gm_no, gm_z]; simp only [c_1, c_2, ↓reduceIte, if_true, if_false]; done) | (simp [gm_k2, gm_no, gm_z, c_1, c_2, ↓reduceIte, if_true, if_false]; done), gh_hp hP9 ht⟩, hS.F ht⟩) hS.2.2 dX4_advise_30
set_option maxHeartbeats 4000000 in
set_option maxRecDepth 100000 in
theorem c_X4_missedWith (l : Launch) (G : gh_G) (sz : Nat) (x : Nat → Nat) (r : gh_B) (a : Nat → Nat) (t : gh_B) (d : Nat → Nat) (q : gh_B) (n : Nat) (nn : Nat) (y : Int32) (v : Int32) (b : Nat) (F : Int32) (hn : r 4 0 = nI n) (hn16 : n ≤ 16) (hsz : ∀ j : Nat, j < n → ¬ 4 * r 6 j = 0) (hrw : ∀ j : Nat, j < n → vp_in (r 5 j) 4) (hz : r 2 0 = nI nn) (hz32 : nn ≤ 32) (hln : ¬ r 1 0 = 0) (hbb : b < 2 ^ 31) (hy : vp_in y 4) (hF : ∀ q9 : gh_B, gm_go r (gh_st (gm_bc t q9) 5 (upd (gm_bc t q9 5) y.toNatClampNeg v)) n nn b 3 0 = F) : Met l yX4_missedWith wsX4_missedWith ({ frames := 6, cells := 0, slots := 0, locals := 131 } : Room) (gh_w G [.ref (x 0), .int y, .int v, .int (nI b)] ((wM G x (a 0) (d 0) r) ++ (wT G a (x 0) t) ++ (wT G d (x 0) q)) sz) (va_Qi (fun (r9 : Int32) (_ : gh_B) => r9 = F) (fun u t9 => va_P G.1 vwCl ((wM G x (a 0) (d 0) r) ++ (wT G a (x 0) t) ++ (wT G d (x 0) u)) t9.heap) (va_A ((wM G x (a 0) (d 0) r) ++ (wT G a (x 0) t) ++ (wT G d (x 0) q)) sz)) 0 0 (va_A ((wM G x (a 0) (d 0) r) ++ (wT G a (x 0) t) ++ (wT G d (x 0) q)) sz) := by
  refine Met.ofW (cc := cX4_missedWith) (maxL := 4) (ret := (some .int)) (by decide) rfl ?_
  intro p e s m args below meth c s₁ B hml hv
  obtain ⟨rfl, hsz, hP, hE, hD0⟩ := hv
  have hx := B.exec
  have hb := B.bytes
  have hr := B.returns
  have hts := atoms_spec (ws := wsX4_missedWith) B.pre
  have hown : s.vm.findClass RX4 = some m.cls := findClass_of_methodNamed B.named
  have hlocks := B.notSynchronized
  have hK := hE.1
  subst hsz
  have hD := hD0.self (sz := s.heap.size)
  generalize hAe : va_A ((wM G x (a 0) (d 0) r) ++ (wT G a (x 0) t) ++ (wT G d (x 0) q)) s.heap.size = A at hD ⊢
  have hA : ∀ q : Nat, s.heap.size ≤ q → A q := fun q h => by rw [← hAe]; exact Or.inr h
  have hS : va_S A s.heap s.heap [] := va_S.rf
  have hl := lv_entry ([.ref (x 0), .int y, .int v, .int (nI b)]) (n := 4) (Nat.le_of_ble_eq_true rfl)
  rw [lg_entry_eq]
  generalize (lg_sl ([.ref (x 0), .int y, .int v, .int (nI b)]) ++ List.replicate (4 - (lg_sl ([.ref (x 0), .int y, .int v, .int (nI b)])).length) Slot.unset).toArray = ls at hl ⊢
  have hl : lv_has ls 4 [(0, .ref (x 0)), (1, .int y), (2, .int v), (3, .int (nI b))] := hl
  refine lv_aload_n hx hb dX4_missedWith_0 rfl (lv_at hl 0 rfl) ?_
  refine va_get (D := G.1) (ci := 4) (v := .ref (d 0)) (C := RX4) (T := TX4) (N := 9) hx hb hts (fun w9 h9 => List.mem_cons_of_mem _ (List.mem_append_left _ (List.mem_append_right _ h9))) hown hK hP 0 rfl rfl 8 (by decide) (hts (.fieldLink RX4 32 "GlassHarpModel" "ahead" "LGlassHarpModel$State;") (List.mem_of_getElem? (i := 1) rfl)) (fun _ h9 => h9) rfl dX4_missedWith_1 ?_
  refine lv_aload_n hx hb dX4_missedWith_4 rfl (lv_at hl 0 rfl) ?_
  refine va_get (D := G.1) (ci := 4) (v := .ref (a 0)) (C := RX4) (T := TX4) (N := 9) hx hb hts (fun w9 h9 => List.mem_cons_of_mem _ (List.mem_append_left _ (List.mem_append_right _ h9))) hown hK hP 0 rfl rfl 7 (by decide) (hts (.fieldLink RX4 28 "GlassHarpModel" "s" "LGlassHarpModel$State;") (List.mem_of_getElem? (i := 2) rfl)) (fun _ h9 => h9) rfl dX4_missedWith_5 ?_
  refine gh_cv (wr := wM G x (a 0) (d 0) r) (ws' := (wM G x (a 0) (d 0) r) ++ (wT G a (x 0) t) ++ (wT G d (x 0) (gm_bc t q))) (va_runV (As := [.ref (a 0)]) (rest := []) ⟨hx, hb, hml, hown, hts⟩ (c_X3_become l G s.heap.size d q a t (x 0)) (cwV 1 hts gX4_missedWith_X3_become rfl rfl rfl ⟨rfl, hdS_X3_become⟩ ⟨Nat.le_of_ble_eq_true rfl, Nat.le_of_ble_eq_true rfl⟩) (gh_wV hE (hP.sub (ws' := (wT G d (x 0) q) ++ (wT G a (x 0) t)) [11, 12, 13, 14, 15, 16, 17, 4, 5, 6, 7, 8, 9, 10] rfl) (hD.sub (ws' := (wT G d (x 0) q) ++ (wT G a (x 0) t)) [11, 12, 13, 14, 15, 16, 17, 4, 5, 6, 7, 8, 9, 10] (by decide) rfl) (ci := 3) (q0 := 0) rfl rfl) rfl rfl hl.1 rfl (lv_room (Nat.le_of_ble_eq_true rfl)) dX4_missedWith_8 ⟨Nat.le_of_ble_eq_true rfl, Nat.le_of_ble_eq_true rfl⟩) hP hD hS hA [11, 12, 13, 14, 15, 16, 17, 4, 5, 6, 7, 8, 9, 10] [0, 1, 2, 3] [0, 1, 2, 3, 11, 12, 13, 14, 15, 16, 17, 4, 5, 6, 7, 8, 9, 10] rfl rfl (by decide) (by decide) (by decide) [d 0, d 4, d 5, d 6, d 7, d 8, d 9, a 0, a 4, a 5, a 6, a 7, a 8, a 9] [x 0, x 3, x 5, x 6, a 0, a 4, a 5, a 6, a 7, a 8, a 9, d 0, d 4, d 5, d 6, d 7, d 8, d 9] rfl rfl rfl rfl rfl (fun H locs hP hD hS => ?_)
  refine lv_aload_n hx hb dX4_missedWith_11 rfl (lv_at hl 0 rfl) ?_
  refine va_get (D := G.1) (ci := 4) (v := .ref (d 0)) (C := RX4) (T := TX4) (N := 9) hx hb hts (fun w9 h9 => List.mem_cons_of_mem _ (List.mem_append_left _ (List.mem_append_right _ h9))) hown hK hP 0 rfl rfl 8 (by decide) (hts (.fieldLink RX4 32 "GlassHarpModel" "ahead" "LGlassHarpModel$State;") (List.mem_of_getElem? (i := 1) rfl)) (fun _ h9 => h9) rfl dX4_missedWith_12 ?_
  refine va_getN (D := G.1) (ci := 3) (v := .ref (d 5)) (C := RX3) (T := TX3) (N := 12) hx hb hts (fun w9 h9 => List.mem_cons_of_mem _ (List.mem_append_right _ h9)) hown hK hP 11 rfl rfl 5 (by decide) (va_Nw.use rfl (hE.2.2 (RX4, 65, "GlassHarpModel$State", "pump", "[I", RX4) (List.mem_of_getElem? (i := 27) rfl))) (fun _ h9 => h9) rfl dX4_missedWith_15 ?_
  refine lv_iload_n hx hb dX4_missedWith_18 rfl (lv_at hl 1 rfl) ?_
  refine lv_iload_n hx hb dX4_missedWith_19 rfl (lv_at hl 2 rfl) ?_
  refine va_iast (f := (gm_bc t q) 5) hx hb hK hP hD hS 13 0 rfl rfl (hy) dX4_missedWith_20 (fun H locs hP hD hS => ?_)
  have hP : va_P G.1 vwCl ((wM G x (a 0) (d 0) r) ++ (wT G a (x 0) t) ++ (wT G d (x 0) (gh_st (gm_bc t q) 5 (upd ((gm_bc t q) 5) y.toNatClampNeg v)))) H := hP
  have hD : va_D A ((wM G x (a 0) (d 0) r) ++ (wT G a (x 0) t) ++ (wT G d (x 0) (gh_st (gm_bc t q) 5 (upd ((gm_bc t q) 5) y.toNatClampNeg v)))) := hD
  refine lv_aload_n hx hb dX4_missedWith_21 rfl (lv_at hl 0 rfl) ?_
  refine lv_iload_n hx hb dX4_missedWith_22 rfl (lv_at hl 3 rfl) ?_
  refine gh_cv (wr := wT G a (x 0) t) (ws' := (wM G x (a 0) (d 0) r) ++ (wT G a (x 0) t) ++ (wT G d (x 0) (gm_go r (gh_st (gm_bc t q) 5 (upd ((gm_bc t q) 5) y.toNatClampNeg v)) n nn b))) (va_runV (As := [.int (nI b)]) (rest := []) ⟨hx, hb, hml, hown, hts⟩ (c_X4_run l G H.size x (a 0) r d (gh_st (gm_bc t q) 5 (upd ((gm_bc t q) 5) y.toNatClampNeg v)) n nn b (hn) (hn16) (hsz) (hrw) (hz) (hz32) (hln) (hbb)) (cwV 1 hts gX4_missedWith_X4_run rfl rfl rfl ⟨rfl, hdS_X4_run⟩ ⟨Nat.le_of_ble_eq_true rfl, Nat.le_of_ble_eq_true rfl⟩) (gh_wV hE (hP.sub (ws' := (wM G x (a 0) (d 0) r) ++ (wT G d (x 0) (gh_st (gm_bc t q) 5 (upd ((gm_bc t q) 5) y.toNatClampNeg v)))) [0, 1, 2, 3, 11, 12, 13, 14, 15, 16, 17] rfl) (hD.sub (ws' := (wM G x (a 0) (d 0) r) ++ (wT G d (x 0) (gh_st (gm_bc t q) 5 (upd ((gm_bc t q) 5) y.toNatClampNeg v)))) [0, 1, 2, 3, 11, 12, 13, 14, 15, 16, 17] (by decide) rfl) (ci := 4) (q0 := 0) rfl rfl) rfl rfl hl.1 rfl (lv_room (Nat.le_of_ble_eq_true rfl)) dX4_missedWith_23 ⟨Nat.le_of_ble_eq_true rfl, Nat.le_of_ble_eq_true rfl⟩) hP hD hS hA [0, 1, 2, 3, 11, 12, 13, 14, 15, 16, 17] [4, 5, 6, 7, 8, 9, 10] [7, 8, 9, 10, 0, 1, 2, 3, 4, 5, 6, 11, 12, 13, 14, 15, 16, 17] rfl rfl (by decide) (by decide) (by decide) [x 0, x 3, x 5, x 6, d 0, d 4, d 5, d 6, d 7, d 8, d 9] [x 0, x 3, x 5, x 6, a 0, a 4, a 5, a 6, a 7, a 8, a 9, d 0, d 4, d 5, d 6, d 7, d 8, d 9] rfl rfl rfl rfl rfl (fun H locs hP hD hS => ?_)
  refine lv_aload_n hx hb dX4_missedWith_26 rfl (lv_at hl 0 rfl) ?_
  refine va_get (D := G.1) (ci := 4) (v := .ref (d 0)) (C := RX4) (T := TX4) (N := 9) hx hb hts (fun w9 h9 => List.mem_cons_of_mem _ (List.mem_append_left _ (List.mem_append_right _ h9))) hown hK hP 0 rfl rfl 8 (by decide) (hts (.fieldLink RX4 32 "GlassHarpModel" "ahead" "LGlassHarpModel$State;") (List.mem_of_getElem? (i := 1) rfl)) (fun _ h9 => h9) rfl dX4_missedWith_27 ?_
  refine va_getN (D := G.1) (ci := 3) (v := .int ((gm_go r (gh_st (gm_bc t q) 5 (upd ((gm_bc t q) 5) y.toNatClampNeg v)) n nn b) 3 0)) (C := RX3) (T := TX3) (N := 12) hx hb hts (fun w9 h9 => List.mem_cons_of_mem _ (List.mem_append_right _ h9)) hown hK hP 11 rfl rfl 3 (by decide) (va_Nw.use rfl (hE.2.2 (RX4, 116, "GlassHarpModel$State", "missed", "I", RX4) (List.mem_of_getElem? (i := 25) rfl))) (fun _ h9 => h9) rfl dX4_missedWith_30 ?_
  refine gh_vv (y := F) (hF q) ?_
  have hP9 := hP
  exact W.iret (v := F) hx hb hr (fun t9 ht hW => ⟨⟨F, (gm_go r (gh_st (gm_bc t q) 5 (upd ((gm_bc t q) 5) y.toNatClampNeg v)) n nn b), rfl, rfl, gh_hp hP9 ht⟩, hS.F ht⟩) hS.2.2 dX4_missedWith_33
set_option maxHeartbeats 4000000 in
set_option maxRecDepth 100000 in
theorem c_X4_wants (l : Launch) (G : gh_G) (sz : Nat) (x : Nat → Nat) (r : gh_B) (a : Nat → Nat) (t : gh_B) (d : Nat → Nat) (q : gh_B) (n : Nat) (nn : Nat) (F : Int32 → Int32) (y : Int32) (z : Int32) (hn : r 4 0 = nI n) (hn16 : n ≤ 16) (hsz : ∀ j : Nat, j < n → ¬ 4 * r 6 j = 0) (hrw : ∀ j : Nat, j < n → vp_in (r 5 j) 4) (hz : r 2 0 = nI nn) (hz32 : nn ≤ 32) (hln : ¬ r 1 0 = 0) (hF : ∀ (q9 : gh_B) (v : Int32), gm_go (gh_st r 0 (fun _ => 0)) (gh_st (gm_bc t q9) 5 (upd (gm_bc t q9 5) y.toNatClampNeg v)) n nn z.toNatClampNeg 3 0 = F v) : Met l yX4_wants wsX4_wants ({ frames := 7, cells := 0, slots := 0, locals := 154 } : Room) (gh_w G [.ref (x 0), .int y, .int z] ((wM G x (a 0) (d 0) r) ++ (wT G a (x 0) t) ++ (wT G d (x 0) q)) sz) (va_Qi (fun (r9 : Int32) (_ : gh_B) => r9 = gm_k3 0 0 (nI (gm_wl F (F 9) 9 0)) (gh_iw y 0 3) (gh_iw z 1 80)) (fun u t9 => va_P G.1 vwCl ((wM G x (a 0) (d 0) (gm_k3 (gm_no r 1) (gm_no r 2) (gm_z r) (gh_iw y 0 3) (gh_iw z 1 80))) ++ (wT G a (x 0) t) ++ (wT G d (x 0) u)) t9.heap) (va_A ((wM G x (a 0) (d 0) r) ++ (wT G a (x 0) t) ++ (wT G d (x 0) q)) sz)) 0 0 (va_A ((wM G x (a 0) (d 0) r) ++ (wT G a (x 0) t) ++ (wT G d (x 0) q)) sz) := by
  refine Met.ofW (cc := cX4_wants) (maxL := 5) (ret := (some .int)) (by decide) rfl ?_
  intro p e s m args below meth c s₁ B hml hv
  obtain ⟨rfl, hsz, hP, hE, hD0⟩ := hv
  have hx := B.exec
  have hb := B.bytes
  have hr := B.returns
  have hts := atoms_spec (ws := wsX4_wants) B.pre
  have hown : s.vm.findClass RX4 = some m.cls := findClass_of_methodNamed B.named
  have hlocks := B.notSynchronized
  have hK := hE.1
  subst hsz
  have hD := hD0.self (sz := s.heap.size)
  generalize hAe : va_A ((wM G x (a 0) (d 0) r) ++ (wT G a (x 0) t) ++ (wT G d (x 0) q)) s.heap.size = A at hD ⊢
  have hA : ∀ q : Nat, s.heap.size ≤ q → A q := fun q h => by rw [← hAe]; exact Or.inr h
  have hS : va_S A s.heap s.heap [] := va_S.rf
  have hl := lv_entry ([.ref (x 0), .int y, .int z]) (n := 5) (Nat.le_of_ble_eq_true rfl)
  rw [lg_entry_eq]
  generalize (lg_sl ([.ref (x 0), .int y, .int z]) ++ List.replicate (5 - (lg_sl ([.ref (x 0), .int y, .int z])).length) Slot.unset).toArray = ls at hl ⊢
  have hl : lv_has ls 5 [(0, .ref (x 0)), (1, .int y), (2, .int z)] := hl
  refine lv_aload_n hx hb dX4_wants_0 rfl (lv_at hl 0 rfl) ?_
  refine lv_iconst (v := 0) hx hb dX4_wants_1 (by decide) ?_
  refine va_put (D := G.1) (ci := 4) (v := .int 0) (ty := .int) (C := RX4) (T := TX4) (N := 9) hx hb hts (fun w9 h9 => List.mem_cons_of_mem _ (List.mem_append_left _ (List.mem_append_right _ h9))) tyX4 tyX4_ok nmX4 hown hK hP hD hS 0 rfl rfl 0 (by decide) (hts (.fieldLink RX4 35 "GlassHarpModel" "thrown" "I") (List.mem_of_getElem? (i := 1) rfl)) (fun _ h9 => h9) rfl (tyX4_ok 0 (by decide)) rfl rfl (Nat.le_of_ble_eq_true rfl) dX4_wants_2 (fun H locs hP hD hS => ?_)
  have hP : va_P G.1 vwCl ((wM G x (a 0) (d 0) (gh_st r 0 (fun _ => 0))) ++ (wT G a (x 0) t) ++ (wT G d (x 0) q)) H := hP
  have hD : va_D A ((wM G x (a 0) (d 0) (gh_st r 0 (fun _ => 0))) ++ (wT G a (x 0) t) ++ (wT G d (x 0) q)) := hD
  refine lv_iload_n hx hb dX4_wants_5 rfl (lv_at hl 1 rfl) ?_
  refine gh_ci (va_runS (As := [.int y]) (rest := []) ⟨hx, hb, hml, hown, hts⟩ (c_X4_isRow l G y) (va_cwS 1 hts gX4_wants_X4_isRow rfl rfl rfl hdS_X4_isRow ⟨Nat.le_of_ble_eq_true rfl, Nat.le_of_ble_eq_true rfl⟩) (gh_rS hE (fun k q h => by simp at h)) rfl rfl hl.1 rfl (lv_room (Nat.le_of_ble_eq_true rfl)) dX4_wants_6 ⟨Nat.le_of_ble_eq_true rfl, Nat.le_of_ble_eq_true rfl⟩) ?_
  refine lv_if_ne (tgt := 18) hx hb dX4_wants_9 (by decide) (fun c_1 => ?_) (fun c_1 => ?_)
  · skip
    refine lv_iload_n hx hb dX4_wants_18 rfl (lv_at hl 2 rfl) ?_
    refine lv_iconst (v := 1) hx hb dX4_wants_19 (by decide) ?_
    refine lv_bipush (v := 80) hx hb dX4_wants_20 (by decide) ?_
    refine gh_ci (va_runS (As := [.int z, .int 1, .int 80]) (rest := []) ⟨hx, hb, hml, hown, hts⟩ (c_X4_isIn l G z 1 80) (va_cwS 3 hts gX4_wants_X4_isIn rfl rfl rfl hdS_X4_isIn ⟨Nat.le_of_ble_eq_true rfl, Nat.le_of_ble_eq_true rfl⟩) (gh_rS hE (fun k q h => by simp at h)) rfl rfl hl.1 rfl (lv_room (Nat.le_of_ble_eq_true rfl)) dX4_wants_22 ⟨Nat.le_of_ble_eq_true rfl, Nat.le_of_ble_eq_true rfl⟩) ?_
    refine lv_if_ne (tgt := 34) hx hb dX4_wants_25 (by decide) (fun c_2 => ?_) (fun c_2 => ?_)
    · skip
      obtain ⟨b, hb1, hb2, eb⟩ := gh_iw_r (a := 1) (b := 80) c_2 (by decide) (by decide) (by decide) (by decide)
      have ebc : z.toNatClampNeg = b := by rw [eb, nI_clamp (Nat.lt_of_le_of_lt hb2 (by decide))]
      refine lv_aload_n hx hb dX4_wants_34 rfl (lv_at hl 0 rfl) ?_
      refine lv_iload_n hx hb dX4_wants_35 rfl (lv_at hl 1 rfl) ?_
      refine lv_bipush (v := 9) hx hb dX4_wants_36 (by decide) ?_
      refine lv_iload_n hx hb dX4_wants_38 rfl (lv_at hl 2 rfl) ?_
      refine gh_vv (y := nI b) (eb) ?_
      refine gh_cwe (wr := []) (ws' := fun u_3 => (wM G x (a 0) (d 0) (gh_st r 0 (fun _ => 0))) ++ (wT G a (x 0) t) ++ (wT G d (x 0) u_3)) (va_runV (As := [.int y, .int 9, .int (nI b)]) (rest := []) ⟨hx, hb, hml, hown, hts⟩ (c_X4_missedWith l G H.size x (gh_st r 0 (fun _ => 0)) a t d q n nn y 9 b (F 9) (hn) (hn16) (hsz) (hrw) (hz) (hz32) (hln) (Nat.lt_of_le_of_lt hb2 (by decide)) (gh_iw_in c_1) (fun q9 => by rw [← ebc]; exact hF q9 _)) (cwV 3 hts gX4_wants_X4_missedWith rfl rfl rfl ⟨rfl, hdS_X4_missedWith⟩ ⟨Nat.le_of_ble_eq_true rfl, Nat.le_of_ble_eq_true rfl⟩) (gh_wV hE hP hD (ci := 4) (q0 := 0) rfl rfl) rfl rfl hl.1 rfl (lv_room (Nat.le_of_ble_eq_true rfl)) dX4_wants_39 ⟨Nat.le_of_ble_eq_true rfl, Nat.le_of_ble_eq_true rfl⟩) hP hD hS hA [0, 1, 2, 3, 4, 5, 6, 7, 8, 9, 10, 11, 12, 13, 14, 15, 16, 17] [] [0, 1, 2, 3, 4, 5, 6, 7, 8, 9, 10, 11, 12, 13, 14, 15, 16, 17] rfl rfl (by decide) (by decide) (by decide) [x 0, x 3, x 5, x 6, a 0, a 4, a 5, a 6, a 7, a 8, a 9, d 0, d 4, d 5, d 6, d 7, d 8, d 9] [x 0, x 3, x 5, x 6, a 0, a 4, a 5, a 6, a 7, a 8, a 9, d 0, d 4, d 5, d 6, d 7, d 8, d 9] (fun _ => rfl) rfl (fun _ => rfl) (fun _ => rfl) rfl (fun u_3 H locs hP hD hS => ?_)
      refine lv_istore_n (lv' := [(3, .int (F 9)), (0, .ref (x 0)), (1, .int y), (2, .int z)]) hx hb dX4_wants_42 rfl hl (by decide) rfl (fun ls hl => ?_)
      refine lv_iconst (v := 0) hx hb dX4_wants_43 (by decide) ?_
      refine lv_istore (lv' := [(4, .int 0), (3, .int (F 9)), (0, .ref (x 0)), (1, .int y), (2, .int z)]) hx hb dX4_wants_44 hl (by decide) rfl (fun ls hl => ?_)
      have J46 : ∀ (Q : gh_B), (∀ j : Nat, j < 0 → ¬ F (nI j) ≤ F 9) → ∀ (H : Heap) (locs : List Loc), va_P G.1 vwCl ((wM G x (a 0) (d 0) (gh_st r 0 (fun _ => 0))) ++ (wT G a (x 0) t) ++ (wT G d (x 0) Q)) H → va_D A ((wM G x (a 0) (d 0) (gh_st r 0 (fun _ => 0))) ++ (wT G a (x 0) t) ++ (wT G d (x 0) Q)) → va_S A s.heap H locs → ∀ (ls : Array Slot), lv_has ls 5 [(0, .ref (x 0)), (1, .int y), (2, .int z), (3, .int (F 9)), (4, .int (nI 0))] → W p l e (headSpec wsX4_wants ({ frames := 7, cells := 0, slots := 0, locals := 154 } : Room)).room s m ([.ref (x 0), .int y, .int z] : List Value).toArray below meth c H locs 0 0 (MQ below (va_Qi (fun (r9 : Int32) (_ : gh_B) => r9 = gm_k3 0 0 (nI (gm_wl F (F 9) 9 0)) (gh_iw y 0 3) (gh_iw z 1 80)) (fun u t9 => va_P G.1 vwCl ((wM G x (a 0) (d 0) (gm_k3 (gm_no r 1) (gm_no r 2) (gm_z r) (gh_iw y 0 3) (gh_iw z 1 80))) ++ (wT G a (x 0) t) ++ (wT G d (x 0) u)) t9.heap) A) ([.ref (x 0), .int y, .int z] : List Value).toArray s 0 0 A) (F0 m 46 ls []) := by
        refine gh_loop (n := 9) (i0 := 0) (Nat.zero_le _) (P := fun i => ∀ (Q : gh_B), (∀ j : Nat, j < i → ¬ F (nI j) ≤ F 9) → ∀ (H : Heap) (locs : List Loc), va_P G.1 vwCl ((wM G x (a 0) (d 0) (gh_st r 0 (fun _ => 0))) ++ (wT G a (x 0) t) ++ (wT G d (x 0) Q)) H → va_D A ((wM G x (a 0) (d 0) (gh_st r 0 (fun _ => 0))) ++ (wT G a (x 0) t) ++ (wT G d (x 0) Q)) → va_S A s.heap H locs → ∀ (ls : Array Slot), lv_has ls 5 [(0, .ref (x 0)), (1, .int y), (2, .int z), (3, .int (F 9)), (4, .int (nI i))] → W p l e (headSpec wsX4_wants ({ frames := 7, cells := 0, slots := 0, locals := 154 } : Room)).room s m ([.ref (x 0), .int y, .int z] : List Value).toArray below meth c H locs 0 0 (MQ below (va_Qi (fun (r9 : Int32) (_ : gh_B) => r9 = gm_k3 0 0 (nI (gm_wl F (F 9) 9 0)) (gh_iw y 0 3) (gh_iw z 1 80)) (fun u t9 => va_P G.1 vwCl ((wM G x (a 0) (d 0) (gm_k3 (gm_no r 1) (gm_no r 2) (gm_z r) (gh_iw y 0 3) (gh_iw z 1 80))) ++ (wT G a (x 0) t) ++ (wT G d (x 0) u)) t9.heap) A) ([.ref (x 0), .int y, .int z] : List Value).toArray s 0 0 A) (F0 m 46 ls [])) ?_ ?_
        · skip
          intro Q hlt H locs hP hD hS ls hl
          refine lv_aload_n hx hb dX4_wants_46 rfl (lv_at hl 0 rfl) ?_
          refine lv_iload_n hx hb dX4_wants_47 rfl (lv_at hl 1 rfl) ?_
          refine lv_iload hx hb dX4_wants_48 (lv_at hl 4 rfl) ?_
          refine lv_iload_n hx hb dX4_wants_50 rfl (lv_at hl 2 rfl) ?_
          refine gh_vv (y := nI b) (eb) ?_
          refine gh_cwe (wr := []) (ws' := fun u_4 => (wM G x (a 0) (d 0) (gh_st r 0 (fun _ => 0))) ++ (wT G a (x 0) t) ++ (wT G d (x 0) u_4)) (va_runV (As := [.int y, .int (nI 9), .int (nI b)]) (rest := []) ⟨hx, hb, hml, hown, hts⟩ (c_X4_missedWith l G H.size x (gh_st r 0 (fun _ => 0)) a t d Q n nn y (nI 9) b (F (nI 9)) (hn) (hn16) (hsz) (hrw) (hz) (hz32) (hln) (Nat.lt_of_le_of_lt hb2 (by decide)) (gh_iw_in c_1) (fun q9 => by rw [← ebc]; exact hF q9 _)) (cwV 3 hts gX4_wants_X4_missedWith rfl rfl rfl ⟨rfl, hdS_X4_missedWith⟩ ⟨Nat.le_of_ble_eq_true rfl, Nat.le_of_ble_eq_true rfl⟩) (gh_wV hE hP hD (ci := 4) (q0 := 0) rfl rfl) rfl rfl hl.1 rfl (lv_room (Nat.le_of_ble_eq_true rfl)) dX4_wants_51 ⟨Nat.le_of_ble_eq_true rfl, Nat.le_of_ble_eq_true rfl⟩) hP hD hS hA [0, 1, 2, 3, 4, 5, 6, 7, 8, 9, 10, 11, 12, 13, 14, 15, 16, 17] [] [0, 1, 2, 3, 4, 5, 6, 7, 8, 9, 10, 11, 12, 13, 14, 15, 16, 17] rfl rfl (by decide) (by decide) (by decide) [x 0, x 3, x 5, x 6, a 0, a 4, a 5, a 6, a 7, a 8, a 9, d 0, d 4, d 5, d 6, d 7, d 8, d 9] [x 0, x 3, x 5, x 6, a 0, a 4, a 5, a 6, a 7, a 8, a 9, d 0, d 4, d 5, d 6, d 7, d 8, d 9] (fun _ => rfl) rfl (fun _ => rfl) (fun _ => rfl) rfl (fun u_4 H locs hP hD hS => ?_)
          refine lv_iload_n hx hb dX4_wants_54 rfl (lv_at hl 3 rfl) ?_
          refine lv_icmp_le (tgt := 64) hx hb dX4_wants_55 (by decide) (fun c_5 => ?_) (fun c_5 => absurd (Int32.le_refl _) c_5)
          refine lv_iload hx hb dX4_wants_64 (lv_at hl 4 rfl) ?_
          have hP9 : va_P G.1 vwCl ((wM G x (a 0) (d 0) (gm_k3 (gm_no r 1) (gm_no r 2) (gm_z r) (gh_iw y 0 3) (gh_iw z 1 80))) ++ (wT G a (x 0) t) ++ (wT G d (x 0) u_4)) H := by
            have e9 : (gh_st r 0 (fun _ => 0)) = gm_k3 (gm_no r 1) (gm_no r 2) (gm_z r) (gh_iw y 0 3) (gh_iw z 1 80) := by first | (simp only [gm_k3, gm_no, gm_z, c_1, c_2, ebc, c_5, ↓reduceIte, if_true, if_false]; done) | (simp only [gm_k3, gm_no, gm_z]; simp only [c_1, c_2, ebc, c_5, ↓reduceIte, if_true, if_false]; done) | (simp [gm_k3, gm_no, gm_z, c_1, c_2, ebc, c_5, ↓reduceIte, if_true, if_false]; done)
            rw [← e9]
            exact hP
          exact W.iret (v := nI 9) hx hb hr (fun t9 ht hW => ⟨⟨nI 9, u_4, rfl, by rw [gm_k3, if_neg c_1, if_neg c_2, gm_wl_at (i := 9) 9 0 (Nat.zero_le _) (by omega) (fun j _ h8 => hlt j h8) (by first | exact Or.inl rfl | exact Or.inr c_5)], gh_hp hP9 ht⟩, hS.F ht⟩) hS.2.2 dX4_wants_66
        · intro i hi_lo hi ih
          intro Q hlt H locs hP hD hS ls hl
          refine lv_aload_n hx hb dX4_wants_46 rfl (lv_at hl 0 rfl) ?_
          refine lv_iload_n hx hb dX4_wants_47 rfl (lv_at hl 1 rfl) ?_
          refine lv_iload hx hb dX4_wants_48 (lv_at hl 4 rfl) ?_
          refine lv_iload_n hx hb dX4_wants_50 rfl (lv_at hl 2 rfl) ?_
          refine gh_vv (y := nI b) (eb) ?_
          refine gh_cwe (wr := []) (ws' := fun u_6 => (wM G x (a 0) (d 0) (gh_st r 0 (fun _ => 0))) ++ (wT G a (x 0) t) ++ (wT G d (x 0) u_6)) (va_runV (As := [.int y, .int (nI i), .int (nI b)]) (rest := []) ⟨hx, hb, hml, hown, hts⟩ (c_X4_missedWith l G H.size x (gh_st r 0 (fun _ => 0)) a t d Q n nn y (nI i) b (F (nI i)) (hn) (hn16) (hsz) (hrw) (hz) (hz32) (hln) (Nat.lt_of_le_of_lt hb2 (by decide)) (gh_iw_in c_1) (fun q9 => by rw [← ebc]; exact hF q9 _)) (cwV 3 hts gX4_wants_X4_missedWith rfl rfl rfl ⟨rfl, hdS_X4_missedWith⟩ ⟨Nat.le_of_ble_eq_true rfl, Nat.le_of_ble_eq_true rfl⟩) (gh_wV hE hP hD (ci := 4) (q0 := 0) rfl rfl) rfl rfl hl.1 rfl (lv_room (Nat.le_of_ble_eq_true rfl)) dX4_wants_51 ⟨Nat.le_of_ble_eq_true rfl, Nat.le_of_ble_eq_true rfl⟩) hP hD hS hA [0, 1, 2, 3, 4, 5, 6, 7, 8, 9, 10, 11, 12, 13, 14, 15, 16, 17] [] [0, 1, 2, 3, 4, 5, 6, 7, 8, 9, 10, 11, 12, 13, 14, 15, 16, 17] rfl rfl (by decide) (by decide) (by decide) [x 0, x 3, x 5, x 6, a 0, a 4, a 5, a 6, a 7, a 8, a 9, d 0, d 4, d 5, d 6, d 7, d 8, d 9] [x 0, x 3, x 5, x 6, a 0, a 4, a 5, a 6, a 7, a 8, a 9, d 0, d 4, d 5, d 6, d 7, d 8, d 9] (fun _ => rfl) rfl (fun _ => rfl) (fun _ => rfl) rfl (fun u_6 H locs hP hD hS => ?_)
          refine lv_iload_n hx hb dX4_wants_54 rfl (lv_at hl 3 rfl) ?_
          refine lv_icmp_le (tgt := 64) hx hb dX4_wants_55 (by decide) (fun c_7 => ?_) (fun c_7 => ?_)
          · skip
            refine lv_iload hx hb dX4_wants_64 (lv_at hl 4 rfl) ?_
            have hP9 : va_P G.1 vwCl ((wM G x (a 0) (d 0) (gm_k3 (gm_no r 1) (gm_no r 2) (gm_z r) (gh_iw y 0 3) (gh_iw z 1 80))) ++ (wT G a (x 0) t) ++ (wT G d (x 0) u_6)) H := by
              have e9 : (gh_st r 0 (fun _ => 0)) = gm_k3 (gm_no r 1) (gm_no r 2) (gm_z r) (gh_iw y 0 3) (gh_iw z 1 80) := by first | (simp only [gm_k3, gm_no, gm_z, c_1, c_2, ebc, c_7, ↓reduceIte, if_true, if_false]; done) | (simp only [gm_k3, gm_no, gm_z]; simp only [c_1, c_2, ebc, c_7, ↓reduceIte, if_true, if_false]; done) | (simp [gm_k3, gm_no, gm_z, c_1, c_2, ebc, c_7, ↓reduceIte, if_true, if_false]; done)
              rw [← e9]
              exact hP
            exact W.iret (v := nI i) hx hb hr (fun t9 ht hW => ⟨⟨nI i, u_6, rfl, by rw [gm_k3, if_neg c_1, if_neg c_2, gm_wl_at (i := i) 9 0 (Nat.zero_le _) (by omega) (fun j _ h8 => hlt j h8) (by first | exact Or.inl rfl | exact Or.inr c_7)], gh_hp hP9 ht⟩, hS.F ht⟩) hS.2.2 dX4_wants_66
          · skip
            refine lv_iinc (v := nI (i + 1)) (lv' := [(4, .int (nI (i + 1))), (0, .ref (x 0)), (1, .int y), (2, .int z), (3, .int (F 9))]) hx hb dX4_wants_58 hl (k := 4) rfl (nI_1 i) (by decide) rfl (fun ls hl => ?_)
            refine lv_goto (tgt := 46) hx hb dX4_wants_61 (by decide) ?_
            exact ih u_6 (lt_s hlt c_7) _ _ hP hD hS _ (lv_sub hl [1, 2, 3, 4, 0] rfl)
      exact J46 u_3 (fun j h8 => absurd h8 (Nat.not_lt_zero j)) _ _ hP hD hS _ (lv_sub hl [2, 3, 4, 1, 0] rfl)
    · skip
      refine lv_aload_n hx hb dX4_wants_28 rfl (lv_at hl 0 rfl) ?_
      refine lv_iconst (v := 2) hx hb dX4_wants_29 (by decide) ?_
      refine gh_cw (wr := (wT G a (x 0) t) ++ (wT G d (x 0) q)) (ws' := (wM G x (a 0) (d 0) (gh_st (gh_st r 0 (fun _ => 0)) 0 (fun _ => 2))) ++ (wT G a (x 0) t) ++ (wT G d (x 0) q)) (va_runV (As := [.int 2]) (rest := []) ⟨hx, hb, hml, hown, hts⟩ (c_X4_no l G H.size x (gh_st r 0 (fun _ => 0)) a t (d 0) 2) (cwV 1 hts gX4_wants_X4_no rfl rfl rfl ⟨rfl, hdS_X4_no⟩ ⟨Nat.le_of_ble_eq_true rfl, Nat.le_of_ble_eq_true rfl⟩) (gh_wV hE (hP.sub (ws' := wM G x (a 0) (d 0) (gh_st r 0 (fun _ => 0))) [0, 1, 2, 3] rfl) (hD.sub (ws' := wM G x (a 0) (d 0) (gh_st r 0 (fun _ => 0))) [0, 1, 2, 3] (by decide) rfl) (ci := 4) (q0 := 0) rfl rfl) rfl rfl hl.1 rfl (lv_room (Nat.le_of_ble_eq_true rfl)) dX4_wants_30 ⟨Nat.le_of_ble_eq_true rfl, Nat.le_of_ble_eq_true rfl⟩) hP hD hS hA [0, 1, 2, 3] [4, 5, 6, 7, 8, 9, 10, 11, 12, 13, 14, 15, 16, 17] [14, 15, 16, 17, 0, 1, 2, 3, 4, 5, 6, 7, 8, 9, 10, 11, 12, 13] rfl rfl (by decide) (by decide) (by decide) [x 0, x 3, x 5, x 6] [x 0, x 3, x 5, x 6, a 0, a 4, a 5, a 6, a 7, a 8, a 9, d 0, d 4, d 5, d 6, d 7, d 8, d 9] rfl rfl rfl rfl rfl (fun H locs hP hD hS => ?_)
      have hP9 : va_P G.1 vwCl ((wM G x (a 0) (d 0) (gm_k3 (gm_no r 1) (gm_no r 2) (gm_z r) (gh_iw y 0 3) (gh_iw z 1 80))) ++ (wT G a (x 0) t) ++ (wT G d (x 0) q)) H := by
        have e9 : gh_st (gh_st r 0 (fun _ => 0)) 0 (fun _ => 2) = gm_k3 (gm_no r 1) (gm_no r 2) (gm_z r) (gh_iw y 0 3) (gh_iw z 1 80) := by first | (simp only [gm_k3, gm_no, gm_z, c_1, c_2, ↓reduceIte, if_true, if_false]; done) | (simp only [gm_k3, gm_no, gm_z]; simp only [c_1, c_2, ↓reduceIte, if_true, if_false]; done) | (simp [gm_k3, gm_no, gm_z, c_1, c_2, ↓reduceIte, if_true, if_false]; done)
        rw [← e9]
        exact hP
      exact W.iret (v := 0) hx hb hr (fun t9 ht hW => ⟨⟨0, q, rfl, by first | (simp only [gm_k3, c_1, c_2, ↓reduceIte, if_true, if_false]; done) | (simp only [gm_k3]; simp only [c_1, c_2, ↓reduceIte, if_true, if_false]; done) | (simp [gm_k3, c_1, c_2, ↓reduceIte, if_true, if_false]; done), gh_hp hP9 ht⟩, hS.F ht⟩) hS.2.2 dX4_wants_33
  · skip
    refine lv_aload_n hx hb dX4_wants_12 rfl (lv_at hl 0 rfl) ?_
    refine lv_iconst (v := 1) hx hb dX4_wants_13 (by decide) ?_
    refine gh_cw (wr := (wT G a (x 0) t) ++ (wT G d (x 0) q)) (ws' := (wM G x (a 0) (d 0) (gh_st (gh_st r 0 (fun _ => 0)) 0 (fun _ => 1))) ++ (wT G a (x 0) t) ++ (wT G d (x 0) q)) (va_runV (As := [.int 1]) (rest := []) ⟨hx, hb, hml, hown, hts⟩ (c_X4_no l G H.size x (gh_st r 0 (fun _ => 0)) a t (d 0) 1) (cwV 1 hts gX4_wants_X4_no rfl rfl rfl ⟨rfl, hdS_X4_no⟩ ⟨Nat.le_of_ble_eq_true rfl, Nat.le_of_ble_eq_true rfl⟩) (gh_wV hE (hP.sub (ws' := wM G x (a 0) (d 0) (gh_st r 0 (fun _ => 0))) [0, 1, 2, 3] rfl) (hD.sub (ws' := wM G x (a 0) (d 0) (gh_st r 0 (fun _ => 0))) [0, 1, 2, 3] (by decide) rfl) (ci := 4) (q0 := 0) rfl rfl) rfl rfl hl.1 rfl (lv_room (Nat.le_of_ble_eq_true rfl)) dX4_wants_14 ⟨Nat.le_of_ble_eq_true rfl, Nat.le_of_ble_eq_true rfl⟩) hP hD hS hA [0, 1, 2, 3] [4, 5, 6, 7, 8, 9, 10, 11, 12, 13, 14, 15, 16, 17] [14, 15, 16, 17, 0, 1, 2, 3, 4, 5, 6, 7, 8, 9, 10, 11, 12, 13] rfl rfl (by decide) (by decide) (by decide) [x 0, x 3, x 5, x 6] [x 0, x 3, x 5, x 6, a 0, a 4, a 5, a 6, a 7, a 8, a 9, d 0, d 4, d 5, d 6, d 7, d 8, d 9] rfl rfl rfl rfl rfl (fun H locs hP hD hS => ?_)
    have hP9 : va_P G.1 vwCl ((wM G x (a 0) (d 0) (gm_k3 (gm_no r 1) (gm_no r 2) (gm_z r) (gh_iw y 0 3) (gh_iw z 1 80))) ++ (wT G a (x 0) t) ++ (wT G d (x 0) q)) H := by
      have e9 : gh_st (gh_st r 0 (fun _ => 0)) 0 (fun _ => 1) = gm_k3 (gm_no r 1) (gm_no r 2) (gm_z r) (gh_iw y 0 3) (gh_iw z 1 80) := by first | (simp only [gm_k3, gm_no, gm_z, c_1, ↓reduceIte, if_true, if_false]; done) | (simp only [gm_k3, gm_no, gm_z]; simp only [c_1, ↓reduceIte, if_true, if_false]; done) | (simp [gm_k3, gm_no, gm_z, c_1, ↓reduceIte, if_true, if_false]; done)
      rw [← e9]
      exact hP
    exact W.iret (v := 0) hx hb hr (fun t9 ht hW => ⟨⟨0, q, rfl, by first | (simp only [gm_k3, c_1, ↓reduceIte, if_true, if_false]; done) | (simp only [gm_k3]; simp only [c_1, ↓reduceIte, if_true, if_false]; done) | (simp [gm_k3, c_1, ↓reduceIte, if_true, if_false]; done), gh_hp hP9 ht⟩, hS.F ht⟩) hS.2.2 dX4_wants_17
set_option maxHeartbeats 4000000 in
set_option maxRecDepth 100000 in
theorem c_X4_digest (l : Launch) (G : gh_G) (sz : Nat) (x : Nat → Nat) (r : gh_B) (a : Nat → Nat) (t : gh_B) (s2 : Nat) (n : Nat) (nn : Nat) (hn : r 4 0 = nI n) (hn16 : n ≤ 16) (hsz : ∀ j : Nat, j < n → ¬ 4 * r 6 j = 0) (hrw : ∀ j : Nat, j < n → vp_in (r 5 j) 4) (hz : r 2 0 = nI nn) (hz32 : nn ≤ 32) (hln : ¬ r 1 0 = 0) : Met l yX4_digest wsX4_digest ({ frames := 5, cells := 137, slots := 1105, locals := 112 } : Room) (gh_w G [.ref (x 0)] ((wM G x (a 0) s2 r) ++ (wT G a (x 0) t)) sz) (va_Ql (fun (r9 : Int64) (_ : Unit) => r9 = gm_dg (gm_z r) t n nn) (fun _ t9 => va_P G.1 vwCl ((wM G x (a 0) s2 (gm_z r)) ++ (wT G a (x 0) t)) t9.heap) (va_A ((wM G x (a 0) s2 r) ++ (wT G a (x 0) t)) sz)) 137 1105 (va_A ((wM G x (a 0) s2 r) ++ (wT G a (x 0) t)) sz) := by
  refine Met.ofW (cc := cX4_digest) (maxL := 5) (ret := (some .long)) (by decide) rfl ?_
  intro p e s m args below meth c s₁ B hml hv
  obtain ⟨rfl, hsz, hP, hE, hD0⟩ := hv
  have hx := B.exec
  have hb := B.bytes
  have hr := B.returns
  have hts := atoms_spec (ws := wsX4_digest) B.pre
  have hown : s.vm.findClass RX4 = some m.cls := findClass_of_methodNamed B.named
  have hlocks := B.notSynchronized
  have hK := hE.1
  subst hsz
  have hD := hD0.self (sz := s.heap.size)
  generalize hAe : va_A ((wM G x (a 0) s2 r) ++ (wT G a (x 0) t)) s.heap.size = A at hD ⊢
  have hA : ∀ q : Nat, s.heap.size ≤ q → A q := fun q h => by rw [← hAe]; exact Or.inr h
  have hS : va_S A s.heap s.heap [] := va_S.rf
  have hl := lv_entry ([.ref (x 0)]) (n := 5) (Nat.le_of_ble_eq_true rfl)
  rw [lg_entry_eq]
  generalize (lg_sl ([.ref (x 0)]) ++ List.replicate (5 - (lg_sl ([.ref (x 0)])).length) Slot.unset).toArray = ls at hl ⊢
  have hl : lv_has ls 5 [(0, .ref (x 0))] := hl
  refine lv_aload_n hx hb dX4_digest_0 rfl (lv_at hl 0 rfl) ?_
  refine lv_iconst (v := 0) hx hb dX4_digest_1 (by decide) ?_
  refine va_put (D := G.1) (ci := 4) (v := .int 0) (ty := .int) (C := RX4) (T := TX4) (N := 9) hx hb hts (fun w9 h9 => List.mem_cons_of_mem _ (List.mem_append_left _ (List.mem_append_right _ h9))) tyX4 tyX4_ok nmX4 hown hK hP hD hS 0 rfl rfl 0 (by decide) (hts (.fieldLink RX4 35 "GlassHarpModel" "thrown" "I") (List.mem_of_getElem? (i := 1) rfl)) (fun _ h9 => h9) rfl (tyX4_ok 0 (by decide)) rfl rfl (Nat.le_of_ble_eq_true rfl) dX4_digest_2 (fun H locs hP hD hS => ?_)
  have hP : va_P G.1 vwCl ((wM G x (a 0) s2 (gh_st r 0 (fun _ => 0))) ++ (wT G a (x 0) t)) H := hP
  have hD : va_D A ((wM G x (a 0) s2 (gh_st r 0 (fun _ => 0))) ++ (wT G a (x 0) t)) := hD
  refine lv_ldc2 hx hb hown (hts (.constantLong RX4 137 (829)) (List.mem_of_getElem? (i := 2) rfl)) dX4_digest_5 ?_
  refine lv_lstore_n (lv' := [(1, .long 829), (0, .ref (x 0))]) hx hb dX4_digest_8 rfl hl (by decide) rfl (fun ls hl => ?_)
  refine lv_iconst (v := 0) hx hb dX4_digest_9 (by decide) ?_
  refine lv_istore_n (lv' := [(3, .int 0), (1, .long 829), (0, .ref (x 0))]) hx hb dX4_digest_10 rfl hl (by decide) rfl (fun ls hl => ?_)
  have J11 : ∀ (d1 : Int64), (d1 = gd_1 (gm_cl (gh_st r 0 (fun _ => 0)) t n nn) 829 0) → ∀ (H : Heap) (locs : List Loc), va_P G.1 vwCl ((wM G x (a 0) s2 (gh_st r 0 (fun _ => 0))) ++ (wT G a (x 0) t)) H → va_D A ((wM G x (a 0) s2 (gh_st r 0 (fun _ => 0))) ++ (wT G a (x 0) t)) → va_S A s.heap H locs → ∀ (ls : Array Slot), lv_has ls 5 [(0, .ref (x 0)), (1, .long d1), (3, .int (nI 0))] → W p l e (headSpec wsX4_digest ({ frames := 5, cells := 137, slots := 1105, locals := 112 } : Room)).room s m ([.ref (x 0)] : List Value).toArray below meth c H locs 0 (9 * 0) (MQ below (va_Ql (fun (r9 : Int64) (_ : Unit) => r9 = gm_dg (gm_z r) t n nn) (fun _ t9 => va_P G.1 vwCl ((wM G x (a 0) s2 (gm_z r)) ++ (wT G a (x 0) t)) t9.heap) A) ([.ref (x 0)] : List Value).toArray s 137 1105 A) (F0 m 11 ls []) := by
    refine gh_loop (n := 9) (i0 := 0) (Nat.zero_le _) (P := fun i => ∀ (d1 : Int64), (d1 = gd_1 (gm_cl (gh_st r 0 (fun _ => 0)) t n nn) 829 i) → ∀ (H : Heap) (locs : List Loc), va_P G.1 vwCl ((wM G x (a 0) s2 (gh_st r 0 (fun _ => 0))) ++ (wT G a (x 0) t)) H → va_D A ((wM G x (a 0) s2 (gh_st r 0 (fun _ => 0))) ++ (wT G a (x 0) t)) → va_S A s.heap H locs → ∀ (ls : Array Slot), lv_has ls 5 [(0, .ref (x 0)), (1, .long d1), (3, .int (nI i))] → W p l e (headSpec wsX4_digest ({ frames := 5, cells := 137, slots := 1105, locals := 112 } : Room)).room s m ([.ref (x 0)] : List Value).toArray below meth c H locs i (9 * i) (MQ below (va_Ql (fun (r9 : Int64) (_ : Unit) => r9 = gm_dg (gm_z r) t n nn) (fun _ t9 => va_P G.1 vwCl ((wM G x (a 0) s2 (gm_z r)) ++ (wT G a (x 0) t)) t9.heap) A) ([.ref (x 0)] : List Value).toArray s 137 1105 A) (F0 m 11 ls [])) ?_ ?_
    · skip
      intro d1 e1 H locs hP hD hS ls hl
      subst e1
      refine lv_iload_n hx hb dX4_digest_11 rfl (lv_at hl 2 rfl) ?_
      refine lv_bipush (v := 8) hx hb dX4_digest_12 (by decide) ?_
      refine lv_icmp_gt (tgt := 36) hx hb dX4_digest_14 (by decide) (fun c_1 => ?_) (fun c_1 => absurd (nI_lt (a := 8) (b := 9) (by decide) (by decide)) c_1)
      refine lv_lload_n hx hb dX4_digest_36 rfl (lv_at hl 1 rfl) ?_
      refine lv_ldc2 hx hb hown (hts (.constantLong RX4 139 (31)) (List.mem_of_getElem? (i := 3) rfl)) dX4_digest_37 ?_
      refine lv_lmul hx hb dX4_digest_40 ?_
      refine lv_aload_n hx hb dX4_digest_41 rfl (lv_at hl 0 rfl) ?_
      refine va_get (D := G.1) (ci := 4) (v := .int (r 1 0)) (C := RX4) (T := TX4) (N := 9) hx hb hts (fun w9 h9 => List.mem_cons_of_mem _ (List.mem_append_left _ (List.mem_append_right _ h9))) hown hK hP 0 rfl rfl 1 (by decide) (hts (.fieldLink RX4 7 "GlassHarpModel" "length" "I") (List.mem_of_getElem? (i := 4) rfl)) (fun _ h9 => h9) rfl dX4_digest_42 ?_
      refine lv_i2l (v := (r 1 0).toInt64) hx hb dX4_digest_45 rfl ?_
      refine lv_ladd hx hb dX4_digest_46 ?_
      refine lv_lstore_n (lv' := [(1, .long (((gd_1 (gm_cl (gh_st r 0 (fun _ => 0)) t n nn) 829 9) * 31) + ((r 1 0).toInt64))), (0, .ref (x 0)), (3, .int (nI 9))]) hx hb dX4_digest_47 rfl hl (by decide) rfl (fun ls hl => ?_)
      refine lv_iconst (v := 0) hx hb dX4_digest_48 (by decide) ?_
      refine lv_istore_n (lv' := [(3, .int 0), (1, .long (((gd_1 (gm_cl (gh_st r 0 (fun _ => 0)) t n nn) 829 9) * 31) + ((r 1 0).toInt64))), (0, .ref (x 0))]) hx hb dX4_digest_49 rfl hl (by decide) rfl (fun ls hl => ?_)
      have J50 : ∀ (d1 : Int64), (d1 = gd_2 (fun k => gm_gl (gh_st r 0 (fun _ => 0)) t n k) 8 (gd_1 (gm_cl (gh_st r 0 (fun _ => 0)) t n nn) 829 9 * 31 + (r 1 0).toInt64) 0) → ∀ (H : Heap) (locs : List Loc), va_P G.1 vwCl ((wM G x (a 0) s2 (gh_st r 0 (fun _ => 0))) ++ (wT G a (x 0) t)) H → va_D A ((wM G x (a 0) s2 (gh_st r 0 (fun _ => 0))) ++ (wT G a (x 0) t)) → va_S A s.heap H locs → ∀ (ls : Array Slot), lv_has ls 5 [(0, .ref (x 0)), (1, .long d1), (3, .int (nI 0))] → W p l e (headSpec wsX4_digest ({ frames := 5, cells := 137, slots := 1105, locals := 112 } : Room)).room s m ([.ref (x 0)] : List Value).toArray below meth c H locs (9 + 8 * 0) (81 + 64 * 0) (MQ below (va_Ql (fun (r9 : Int64) (_ : Unit) => r9 = gm_dg (gm_z r) t n nn) (fun _ t9 => va_P G.1 vwCl ((wM G x (a 0) s2 (gm_z r)) ++ (wT G a (x 0) t)) t9.heap) A) ([.ref (x 0)] : List Value).toArray s 137 1105 A) (F0 m 50 ls []) := by
        refine gh_loop (n := n) (i0 := 0) (Nat.zero_le _) (P := fun i => ∀ (d1 : Int64), (d1 = gd_2 (fun k => gm_gl (gh_st r 0 (fun _ => 0)) t n k) 8 (gd_1 (gm_cl (gh_st r 0 (fun _ => 0)) t n nn) 829 9 * 31 + (r 1 0).toInt64) i) → ∀ (H : Heap) (locs : List Loc), va_P G.1 vwCl ((wM G x (a 0) s2 (gh_st r 0 (fun _ => 0))) ++ (wT G a (x 0) t)) H → va_D A ((wM G x (a 0) s2 (gh_st r 0 (fun _ => 0))) ++ (wT G a (x 0) t)) → va_S A s.heap H locs → ∀ (ls : Array Slot), lv_has ls 5 [(0, .ref (x 0)), (1, .long d1), (3, .int (nI i))] → W p l e (headSpec wsX4_digest ({ frames := 5, cells := 137, slots := 1105, locals := 112 } : Room)).room s m ([.ref (x 0)] : List Value).toArray below meth c H locs (9 + 8 * i) (81 + 64 * i) (MQ below (va_Ql (fun (r9 : Int64) (_ : Unit) => r9 = gm_dg (gm_z r) t n nn) (fun _ t9 => va_P G.1 vwCl ((wM G x (a 0) s2 (gm_z r)) ++ (wT G a (x 0) t)) t9.heap) A) ([.ref (x 0)] : List Value).toArray s 137 1105 A) (F0 m 50 ls [])) ?_ ?_
        · skip
          intro d1 e1 H locs hP hD hS ls hl
          subst e1
          refine lv_iload_n hx hb dX4_digest_50 rfl (lv_at hl 2 rfl) ?_
          refine lv_aload_n hx hb dX4_digest_51 rfl (lv_at hl 0 rfl) ?_
          refine va_get (D := G.1) (ci := 4) (v := .int (r 4 0)) (C := RX4) (T := TX4) (N := 9) hx hb hts (fun w9 h9 => List.mem_cons_of_mem _ (List.mem_append_left _ (List.mem_append_right _ h9))) hown hK hP 0 rfl rfl 4 (by decide) (hts (.fieldLink RX4 38 "GlassHarpModel" "glasses" "I") (List.mem_of_getElem? (i := 5) rfl)) (fun _ h9 => h9) rfl dX4_digest_52 ?_
          refine gh_vv (y := nI n) (hn) ?_
          refine lv_icmp_ge (tgt := 95) hx hb dX4_digest_55 (by decide) (fun c_2 => ?_) (fun c_2 => absurd (nI_le (Nat.le_refl _) (Nat.lt_of_le_of_lt hn16 (by decide))) c_2)
          refine lv_iconst (v := 0) hx hb dX4_digest_95 (by decide) ?_
          refine lv_istore_n (lv' := [(3, .int 0), (0, .ref (x 0)), (1, .long (gd_2 (fun k => gm_gl (gh_st r 0 (fun _ => 0)) t n k) 8 (gd_1 (gm_cl (gh_st r 0 (fun _ => 0)) t n nn) 829 9 * 31 + (r 1 0).toInt64) n))]) hx hb dX4_digest_96 rfl hl (by decide) rfl (fun ls hl => ?_)
          have J97 : ∀ (d1 : Int64), (d1 = gd_2 (fun k w => gm_rt (gh_st r 0 (fun _ => 0)) t n (nI k) (nI w)) 3 (gd_2 (fun k => gm_gl (gh_st r 0 (fun _ => 0)) t n k) 8 (gd_1 (gm_cl (gh_st r 0 (fun _ => 0)) t n nn) 829 9 * 31 + (r 1 0).toInt64) n) 0) → ∀ (H : Heap) (locs : List Loc), va_P G.1 vwCl ((wM G x (a 0) s2 (gh_st r 0 (fun _ => 0))) ++ (wT G a (x 0) t)) H → va_D A ((wM G x (a 0) s2 (gh_st r 0 (fun _ => 0))) ++ (wT G a (x 0) t)) → va_S A s.heap H locs → ∀ (ls : Array Slot), lv_has ls 5 [(0, .ref (x 0)), (1, .long d1), (3, .int (nI 0))] → W p l e (headSpec wsX4_digest ({ frames := 5, cells := 137, slots := 1105, locals := 112 } : Room)).room s m ([.ref (x 0)] : List Value).toArray below meth c H locs (9 + 8 * n) (81 + 64 * n) (MQ below (va_Ql (fun (r9 : Int64) (_ : Unit) => r9 = gm_dg (gm_z r) t n nn) (fun _ t9 => va_P G.1 vwCl ((wM G x (a 0) s2 (gm_z r)) ++ (wT G a (x 0) t)) t9.heap) A) ([.ref (x 0)] : List Value).toArray s 137 1105 A) (F0 m 97 ls []) := by
            refine gh_loop (n := 4) (i0 := 0) (Nat.zero_le _) (P := fun i => ∀ (d1 : Int64), (d1 = gd_2 (fun k w => gm_rt (gh_st r 0 (fun _ => 0)) t n (nI k) (nI w)) 3 (gd_2 (fun k => gm_gl (gh_st r 0 (fun _ => 0)) t n k) 8 (gd_1 (gm_cl (gh_st r 0 (fun _ => 0)) t n nn) 829 9 * 31 + (r 1 0).toInt64) n) i) → ∀ (H : Heap) (locs : List Loc), va_P G.1 vwCl ((wM G x (a 0) s2 (gh_st r 0 (fun _ => 0))) ++ (wT G a (x 0) t)) H → va_D A ((wM G x (a 0) s2 (gh_st r 0 (fun _ => 0))) ++ (wT G a (x 0) t)) → va_S A s.heap H locs → ∀ (ls : Array Slot), lv_has ls 5 [(0, .ref (x 0)), (1, .long d1), (3, .int (nI i))] → W p l e (headSpec wsX4_digest ({ frames := 5, cells := 137, slots := 1105, locals := 112 } : Room)).room s m ([.ref (x 0)] : List Value).toArray below meth c H locs (9 + 8 * n) (81 + 64 * n) (MQ below (va_Ql (fun (r9 : Int64) (_ : Unit) => r9 = gm_dg (gm_z r) t n nn) (fun _ t9 => va_P G.1 vwCl ((wM G x (a 0) s2 (gm_z r)) ++ (wT G a (x 0) t)) t9.heap) A) ([.ref (x 0)] : List Value).toArray s 137 1105 A) (F0 m 97 ls [])) ?_ ?_
            · skip
              intro d1 e1 H locs hP hD hS ls hl
              subst e1
              refine lv_iload_n hx hb dX4_digest_97 rfl (lv_at hl 2 rfl) ?_
              refine lv_iconst (v := 4) hx hb dX4_digest_98 (by decide) ?_
              refine lv_icmp_ge (tgt := 138) hx hb dX4_digest_99 (by decide) (fun c_3 => ?_) (fun c_3 => absurd (nI_le (Nat.le_refl _) (by decide)) c_3)
              refine lv_iconst (v := 0) hx hb dX4_digest_138 (by decide) ?_
              refine lv_istore_n (lv' := [(3, .int 0), (0, .ref (x 0)), (1, .long (gd_2 (fun k w => gm_rt (gh_st r 0 (fun _ => 0)) t n (nI k) (nI w)) 3 (gd_2 (fun k => gm_gl (gh_st r 0 (fun _ => 0)) t n k) 8 (gd_1 (gm_cl (gh_st r 0 (fun _ => 0)) t n nn) 829 9 * 31 + (r 1 0).toInt64) n) 4))]) hx hb dX4_digest_139 rfl hl (by decide) rfl (fun ls hl => ?_)
              have J140 : ∀ (d1 : Int64), (d1 = gd_1 (r 3) (gd_2 (fun k w => gm_rt (gh_st r 0 (fun _ => 0)) t n (nI k) (nI w)) 3 (gd_2 (fun k => gm_gl (gh_st r 0 (fun _ => 0)) t n k) 8 (gd_1 (gm_cl (gh_st r 0 (fun _ => 0)) t n nn) 829 9 * 31 + (r 1 0).toInt64) n) 4) 0) → ∀ (H : Heap) (locs : List Loc), va_P G.1 vwCl ((wM G x (a 0) s2 (gh_st r 0 (fun _ => 0))) ++ (wT G a (x 0) t)) H → va_D A ((wM G x (a 0) s2 (gh_st r 0 (fun _ => 0))) ++ (wT G a (x 0) t)) → va_S A s.heap H locs → ∀ (ls : Array Slot), lv_has ls 5 [(0, .ref (x 0)), (1, .long d1), (3, .int (nI 0))] → W p l e (headSpec wsX4_digest ({ frames := 5, cells := 137, slots := 1105, locals := 112 } : Room)).room s m ([.ref (x 0)] : List Value).toArray below meth c H locs (9 + 8 * n) (81 + 64 * n) (MQ below (va_Ql (fun (r9 : Int64) (_ : Unit) => r9 = gm_dg (gm_z r) t n nn) (fun _ t9 => va_P G.1 vwCl ((wM G x (a 0) s2 (gm_z r)) ++ (wT G a (x 0) t)) t9.heap) A) ([.ref (x 0)] : List Value).toArray s 137 1105 A) (F0 m 140 ls []) := by
                refine gh_loop (n := (3 * nn)) (i0 := 0) (Nat.zero_le _) (P := fun i => ∀ (d1 : Int64), (d1 = gd_1 (r 3) (gd_2 (fun k w => gm_rt (gh_st r 0 (fun _ => 0)) t n (nI k) (nI w)) 3 (gd_2 (fun k => gm_gl (gh_st r 0 (fun _ => 0)) t n k) 8 (gd_1 (gm_cl (gh_st r 0 (fun _ => 0)) t n nn) 829 9 * 31 + (r 1 0).toInt64) n) 4) i) → ∀ (H : Heap) (locs : List Loc), va_P G.1 vwCl ((wM G x (a 0) s2 (gh_st r 0 (fun _ => 0))) ++ (wT G a (x 0) t)) H → va_D A ((wM G x (a 0) s2 (gh_st r 0 (fun _ => 0))) ++ (wT G a (x 0) t)) → va_S A s.heap H locs → ∀ (ls : Array Slot), lv_has ls 5 [(0, .ref (x 0)), (1, .long d1), (3, .int (nI i))] → W p l e (headSpec wsX4_digest ({ frames := 5, cells := 137, slots := 1105, locals := 112 } : Room)).room s m ([.ref (x 0)] : List Value).toArray below meth c H locs (9 + 8 * n) (81 + 64 * n) (MQ below (va_Ql (fun (r9 : Int64) (_ : Unit) => r9 = gm_dg (gm_z r) t n nn) (fun _ t9 => va_P G.1 vwCl ((wM G x (a 0) s2 (gm_z r)) ++ (wT G a (x 0) t)) t9.heap) A) ([.ref (x 0)] : List Value).toArray s 137 1105 A) (F0 m 140 ls [])) ?_ ?_
                · skip
                  intro d1 e1 H locs hP hD hS ls hl
                  subst e1
                  refine lv_iload_n hx hb dX4_digest_140 rfl (lv_at hl 2 rfl) ?_
                  refine lv_iconst (v := 3) hx hb dX4_digest_141 (by decide) ?_
                  refine lv_aload_n hx hb dX4_digest_142 rfl (lv_at hl 0 rfl) ?_
                  refine va_get (D := G.1) (ci := 4) (v := .int (r 2 0)) (C := RX4) (T := TX4) (N := 9) hx hb hts (fun w9 h9 => List.mem_cons_of_mem _ (List.mem_append_left _ (List.mem_append_right _ h9))) hown hK hP 0 rfl rfl 2 (by decide) (hts (.fieldLink RX4 91 "GlassHarpModel" "notes" "I") (List.mem_of_getElem? (i := 6) rfl)) (fun _ h9 => h9) rfl dX4_digest_143 ?_
                  refine gh_vv (y := nI nn) (hz) ?_
                  refine lv_imul hx hb dX4_digest_146 ?_
                  refine gh_vv (y := nI (3 * nn)) (pk_mul 3 nn) ?_
                  refine lv_icmp_ge (tgt := 170) hx hb dX4_digest_147 (by decide) (fun c_4 => ?_) (fun c_4 => absurd (nI_le (Nat.le_refl _) (by omega)) c_4)
                  refine lv_lload_n hx hb dX4_digest_170 rfl (lv_at hl 1 rfl) ?_
                  refine W.widen (k := 137) (n := 1105) (by omega) (by omega) ?_
                  have hP9 : va_P G.1 vwCl ((wM G x (a 0) s2 (gm_z r)) ++ (wT G a (x 0) t)) H := by
                    have e9 : gh_st r 0 (fun _ => 0) = gm_z r := by first | (simp only [gm_dg, gm_z, c_1, c_2, c_3, c_4, ↓reduceIte, if_true, if_false]; done) | (simp only [gm_dg, gm_z]; simp only [c_1, c_2, c_3, c_4, ↓reduceIte, if_true, if_false]; done) | (simp [gm_dg, gm_z, c_1, c_2, c_3, c_4, ↓reduceIte, if_true, if_false]; done)
                    rw [← e9]
                    exact hP
                  exact W.lret (v := gd_1 (r 3) (gd_2 (fun k w => gm_rt (gh_st r 0 (fun _ => 0)) t n (nI k) (nI w)) 3 (gd_2 (fun k => gm_gl (gh_st r 0 (fun _ => 0)) t n k) 8 (gd_1 (gm_cl (gh_st r 0 (fun _ => 0)) t n nn) 829 9 * 31 + (r 1 0).toInt64) n) 4) (3 * nn)) hx hb hr (fun t9 ht hW => ⟨⟨gd_1 (r 3) (gd_2 (fun k w => gm_rt (gh_st r 0 (fun _ => 0)) t n (nI k) (nI w)) 3 (gd_2 (fun k => gm_gl (gh_st r 0 (fun _ => 0)) t n k) 8 (gd_1 (gm_cl (gh_st r 0 (fun _ => 0)) t n nn) 829 9 * 31 + (r 1 0).toInt64) n) 4) (3 * nn), (), rfl, rfl, gh_hp hP9 ht⟩, hS.F ht⟩) hS.2.2 dX4_digest_171
                · intro i hi_lo hi ih
                  intro d1 e1 H locs hP hD hS ls hl
                  subst e1
                  refine lv_iload_n hx hb dX4_digest_140 rfl (lv_at hl 2 rfl) ?_
                  refine lv_iconst (v := 3) hx hb dX4_digest_141 (by decide) ?_
                  refine lv_aload_n hx hb dX4_digest_142 rfl (lv_at hl 0 rfl) ?_
                  refine va_get (D := G.1) (ci := 4) (v := .int (r 2 0)) (C := RX4) (T := TX4) (N := 9) hx hb hts (fun w9 h9 => List.mem_cons_of_mem _ (List.mem_append_left _ (List.mem_append_right _ h9))) hown hK hP 0 rfl rfl 2 (by decide) (hts (.fieldLink RX4 91 "GlassHarpModel" "notes" "I") (List.mem_of_getElem? (i := 6) rfl)) (fun _ h9 => h9) rfl dX4_digest_143 ?_
                  refine gh_vv (y := nI nn) (hz) ?_
                  refine lv_imul hx hb dX4_digest_146 ?_
                  refine gh_vv (y := nI (3 * nn)) (pk_mul 3 nn) ?_
                  refine lv_icmp_ge (tgt := 170) hx hb dX4_digest_147 (by decide) (fun c_5 => absurd c_5 (nI_ge hi (by omega))) (fun c_5 => ?_)
                  refine lv_lload_n hx hb dX4_digest_150 rfl (lv_at hl 1 rfl) ?_
                  refine lv_ldc2 hx hb hown (hts (.constantLong RX4 139 (31)) (List.mem_of_getElem? (i := 3) rfl)) dX4_digest_151 ?_
                  refine lv_lmul hx hb dX4_digest_154 ?_
                  refine lv_aload_n hx hb dX4_digest_155 rfl (lv_at hl 0 rfl) ?_
                  refine va_get (D := G.1) (ci := 4) (v := .ref (x 3)) (C := RX4) (T := TX4) (N := 9) hx hb hts (fun w9 h9 => List.mem_cons_of_mem _ (List.mem_append_left _ (List.mem_append_right _ h9))) hown hK hP 0 rfl rfl 3 (by decide) (hts (.fieldLink RX4 13 "GlassHarpModel" "score" "[I") (List.mem_of_getElem? (i := 7) rfl)) (fun _ h9 => h9) rfl dX4_digest_156 ?_
                  refine lv_iload_n hx hb dX4_digest_159 rfl (lv_at hl 2 rfl) ?_
                  refine gh_ia (f := r 3) hx hb hK hP 1 0 rfl rfl i (rfl) (by omega) (by decide) dX4_digest_160 ?_
                  refine lv_i2l (v := (r 3 i).toInt64) hx hb dX4_digest_161 rfl ?_
                  refine lv_ladd hx hb dX4_digest_162 ?_
                  refine lv_lstore_n (lv' := [(1, .long (((gd_1 (r 3) (gd_2 (fun k w => gm_rt (gh_st r 0 (fun _ => 0)) t n (nI k) (nI w)) 3 (gd_2 (fun k => gm_gl (gh_st r 0 (fun _ => 0)) t n k) 8 (gd_1 (gm_cl (gh_st r 0 (fun _ => 0)) t n nn) 829 9 * 31 + (r 1 0).toInt64) n) 4) i) * 31) + ((r 3 i).toInt64))), (0, .ref (x 0)), (3, .int (nI i))]) hx hb dX4_digest_163 rfl hl (by decide) rfl (fun ls hl => ?_)
                  refine lv_iinc (v := nI (i + 1)) (lv' := [(3, .int (nI (i + 1))), (1, .long (((gd_1 (r 3) (gd_2 (fun k w => gm_rt (gh_st r 0 (fun _ => 0)) t n (nI k) (nI w)) 3 (gd_2 (fun k => gm_gl (gh_st r 0 (fun _ => 0)) t n k) 8 (gd_1 (gm_cl (gh_st r 0 (fun _ => 0)) t n nn) 829 9 * 31 + (r 1 0).toInt64) n) 4) i) * 31) + ((r 3 i).toInt64))), (0, .ref (x 0))]) hx hb dX4_digest_164 hl (k := 2) rfl (nI_1 i) (by decide) rfl (fun ls hl => ?_)
                  refine lv_goto (tgt := 140) hx hb dX4_digest_167 (by decide) ?_
                  exact ih (((gd_1 (r 3) (gd_2 (fun k w => gm_rt (gh_st r 0 (fun _ => 0)) t n (nI k) (nI w)) 3 (gd_2 (fun k => gm_gl (gh_st r 0 (fun _ => 0)) t n k) 8 (gd_1 (gm_cl (gh_st r 0 (fun _ => 0)) t n nn) 829 9 * 31 + (r 1 0).toInt64) n) 4) i) * 31) + ((r 3 i).toInt64)) (by first | (simp only [gd_1, c_1, c_2, c_3, c_5, ↓reduceIte, if_true, if_false]; done) | (simp only [gd_1]; simp only [c_1, c_2, c_3, c_5, ↓reduceIte, if_true, if_false]; done) | (simp [gd_1, c_1, c_2, c_3, c_5, ↓reduceIte, if_true, if_false]; done)) _ _ hP hD hS _ (lv_sub hl [2, 1, 0] rfl)
              exact J140 (gd_2 (fun k w => gm_rt (gh_st r 0 (fun _ => 0)) t n (nI k) (nI w)) 3 (gd_2 (fun k => gm_gl (gh_st r 0 (fun _ => 0)) t n k) 8 (gd_1 (gm_cl (gh_st r 0 (fun _ => 0)) t n nn) 829 9 * 31 + (r 1 0).toInt64) n) 4) (by first | (simp only [gd_1, c_1, c_2, c_3, ↓reduceIte, if_true, if_false]; done) | (simp only [gd_1]; simp only [c_1, c_2, c_3, ↓reduceIte, if_true, if_false]; done) | (simp [gd_1, c_1, c_2, c_3, ↓reduceIte, if_true, if_false]; done)) _ _ hP hD hS _ (lv_sub hl [1, 2, 0] rfl)
            · intro i hi_lo hi ih
              intro d1 e1 H locs hP hD hS ls hl
              subst e1
              refine lv_iload_n hx hb dX4_digest_97 rfl (lv_at hl 2 rfl) ?_
              refine lv_iconst (v := 4) hx hb dX4_digest_98 (by decide) ?_
              refine lv_icmp_ge (tgt := 138) hx hb dX4_digest_99 (by decide) (fun c_6 => absurd c_6 (nI_ge hi (by decide))) (fun c_6 => ?_)
              refine lv_iconst (v := 0) hx hb dX4_digest_102 (by decide) ?_
              refine lv_istore (lv' := [(4, .int 0), (0, .ref (x 0)), (1, .long (gd_2 (fun k w => gm_rt (gh_st r 0 (fun _ => 0)) t n (nI k) (nI w)) 3 (gd_2 (fun k => gm_gl (gh_st r 0 (fun _ => 0)) t n k) 8 (gd_1 (gm_cl (gh_st r 0 (fun _ => 0)) t n nn) 829 9 * 31 + (r 1 0).toInt64) n) i)), (3, .int (nI i))]) hx hb dX4_digest_103 hl (by decide) rfl (fun ls hl => ?_)
              have J105 : ∀ (d1 : Int64), (d1 = gd_1 ((fun k w => gm_rt (gh_st r 0 (fun _ => 0)) t n (nI k) (nI w)) i) (gd_2 (fun k w => gm_rt (gh_st r 0 (fun _ => 0)) t n (nI k) (nI w)) 3 (gd_2 (fun k => gm_gl (gh_st r 0 (fun _ => 0)) t n k) 8 (gd_1 (gm_cl (gh_st r 0 (fun _ => 0)) t n nn) 829 9 * 31 + (r 1 0).toInt64) n) i) 0) → ∀ (H : Heap) (locs : List Loc), va_P G.1 vwCl ((wM G x (a 0) s2 (gh_st r 0 (fun _ => 0))) ++ (wT G a (x 0) t)) H → va_D A ((wM G x (a 0) s2 (gh_st r 0 (fun _ => 0))) ++ (wT G a (x 0) t)) → va_S A s.heap H locs → ∀ (ls : Array Slot), lv_has ls 5 [(0, .ref (x 0)), (1, .long d1), (3, .int (nI i)), (4, .int (nI 0))] → W p l e (headSpec wsX4_digest ({ frames := 5, cells := 137, slots := 1105, locals := 112 } : Room)).room s m ([.ref (x 0)] : List Value).toArray below meth c H locs (9 + 8 * n) (81 + 64 * n) (MQ below (va_Ql (fun (r9 : Int64) (_ : Unit) => r9 = gm_dg (gm_z r) t n nn) (fun _ t9 => va_P G.1 vwCl ((wM G x (a 0) s2 (gm_z r)) ++ (wT G a (x 0) t)) t9.heap) A) ([.ref (x 0)] : List Value).toArray s 137 1105 A) (F0 m 105 ls []) := by
                refine gh_loop (n := 3) (i0 := 0) (Nat.zero_le _) (P := fun j => ∀ (d1 : Int64), (d1 = gd_1 ((fun k w => gm_rt (gh_st r 0 (fun _ => 0)) t n (nI k) (nI w)) i) (gd_2 (fun k w => gm_rt (gh_st r 0 (fun _ => 0)) t n (nI k) (nI w)) 3 (gd_2 (fun k => gm_gl (gh_st r 0 (fun _ => 0)) t n k) 8 (gd_1 (gm_cl (gh_st r 0 (fun _ => 0)) t n nn) 829 9 * 31 + (r 1 0).toInt64) n) i) j) → ∀ (H : Heap) (locs : List Loc), va_P G.1 vwCl ((wM G x (a 0) s2 (gh_st r 0 (fun _ => 0))) ++ (wT G a (x 0) t)) H → va_D A ((wM G x (a 0) s2 (gh_st r 0 (fun _ => 0))) ++ (wT G a (x 0) t)) → va_S A s.heap H locs → ∀ (ls : Array Slot), lv_has ls 5 [(0, .ref (x 0)), (1, .long d1), (3, .int (nI i)), (4, .int (nI j))] → W p l e (headSpec wsX4_digest ({ frames := 5, cells := 137, slots := 1105, locals := 112 } : Room)).room s m ([.ref (x 0)] : List Value).toArray below meth c H locs (9 + 8 * n) (81 + 64 * n) (MQ below (va_Ql (fun (r9 : Int64) (_ : Unit) => r9 = gm_dg (gm_z r) t n nn) (fun _ t9 => va_P G.1 vwCl ((wM G x (a 0) s2 (gm_z r)) ++ (wT G a (x 0) t)) t9.heap) A) ([.ref (x 0)] : List Value).toArray s 137 1105 A) (F0 m 105 ls [])) ?_ ?_
                · skip
                  intro d1 e1 H locs hP hD hS ls hl
                  subst e1
                  refine lv_iload hx hb dX4_digest_105 (lv_at hl 3 rfl) ?_
                  refine lv_iconst (v := 2) hx hb dX4_digest_107 (by decide) ?_
                  refine lv_icmp_gt (tgt := 132) hx hb dX4_digest_108 (by decide) (fun c_7 => ?_) (fun c_7 => absurd (nI_lt (a := 2) (b := 3) (by decide) (by decide)) c_7)
                  refine lv_iinc (v := nI (i + 1)) (lv' := [(3, .int (nI (i + 1))), (0, .ref (x 0)), (1, .long (gd_1 ((fun k w => gm_rt (gh_st r 0 (fun _ => 0)) t n (nI k) (nI w)) i) (gd_2 (fun k w => gm_rt (gh_st r 0 (fun _ => 0)) t n (nI k) (nI w)) 3 (gd_2 (fun k => gm_gl (gh_st r 0 (fun _ => 0)) t n k) 8 (gd_1 (gm_cl (gh_st r 0 (fun _ => 0)) t n nn) 829 9 * 31 + (r 1 0).toInt64) n) i) 3)), (4, .int (nI 3))]) hx hb dX4_digest_132 hl (k := 2) rfl (nI_1 i) (by decide) rfl (fun ls hl => ?_)
                  refine lv_goto (tgt := 97) hx hb dX4_digest_135 (by decide) ?_
                  exact ih (gd_1 ((fun k w => gm_rt (gh_st r 0 (fun _ => 0)) t n (nI k) (nI w)) i) (gd_2 (fun k w => gm_rt (gh_st r 0 (fun _ => 0)) t n (nI k) (nI w)) 3 (gd_2 (fun k => gm_gl (gh_st r 0 (fun _ => 0)) t n k) 8 (gd_1 (gm_cl (gh_st r 0 (fun _ => 0)) t n nn) 829 9 * 31 + (r 1 0).toInt64) n) i) 3) (by first | (simp only [gd_2, c_1, c_2, c_6, c_7, ↓reduceIte, if_true, if_false]; done) | (simp only [gd_2]; simp only [c_1, c_2, c_6, c_7, ↓reduceIte, if_true, if_false]; done) | (simp [gd_2, c_1, c_2, c_6, c_7, ↓reduceIte, if_true, if_false]; done)) _ _ hP hD hS _ (lv_sub hl [1, 2, 0] rfl)
                · intro j hj_lo hj jh
                  intro d1 e1 H locs hP hD hS ls hl
                  subst e1
                  refine lv_iload hx hb dX4_digest_105 (lv_at hl 3 rfl) ?_
                  refine lv_iconst (v := 2) hx hb dX4_digest_107 (by decide) ?_
                  refine lv_icmp_gt (tgt := 132) hx hb dX4_digest_108 (by decide) (fun c_8 => absurd c_8 (nI_nlt (a := 2) (by omega) (by decide))) (fun c_8 => ?_)
                  refine lv_lload_n hx hb dX4_digest_111 rfl (lv_at hl 1 rfl) ?_
                  refine lv_ldc2 hx hb hown (hts (.constantLong RX4 139 (31)) (List.mem_of_getElem? (i := 3) rfl)) dX4_digest_112 ?_
                  refine lv_lmul hx hb dX4_digest_115 ?_
                  refine lv_aload_n hx hb dX4_digest_116 rfl (lv_at hl 0 rfl) ?_
                  refine lv_iload_n hx hb dX4_digest_117 rfl (lv_at hl 2 rfl) ?_
                  refine lv_iload hx hb dX4_digest_118 (lv_at hl 3 rfl) ?_
                  refine gh_ci (va_runV (As := [.int (nI i), .int (nI j)]) (rest := [.long ((gd_1 ((fun k w => gm_rt (gh_st r 0 (fun _ => 0)) t n (nI k) (nI w)) i) (gd_2 (fun k w => gm_rt (gh_st r 0 (fun _ => 0)) t n (nI k) (nI w)) 3 (gd_2 (fun k => gm_gl (gh_st r 0 (fun _ => 0)) t n k) 8 (gd_1 (gm_cl (gh_st r 0 (fun _ => 0)) t n nn) 829 9 * 31 + (r 1 0).toInt64) n) i) j) * 31)]) ⟨hx, hb, hml, hown, hts⟩ (c_X4_rowTold l G x (gh_st r 0 (fun _ => 0)) a t s2 n (nI i) (nI j) (hn) (hn16) (vp_in_nI hi (by decide))) (cwV 2 hts gX4_digest_X4_rowTold rfl rfl rfl ⟨rfl, hdS_X4_rowTold⟩ ⟨Nat.le_of_ble_eq_true rfl, Nat.le_of_ble_eq_true rfl⟩) (gh_rV hE hP (ci := 4) (q0 := 0) rfl rfl) rfl rfl hl.1 rfl (lv_room (Nat.le_of_ble_eq_true rfl)) dX4_digest_120 ⟨(by show 9 + 8 * n + 0 ≤ 137; omega), (by show 81 + 64 * n + 0 ≤ 1105; omega)⟩) ?_
                  refine lv_i2l (v := (gm_rt (gh_st r 0 (fun _ => 0)) t n (nI i) (nI j)).toInt64) hx hb dX4_digest_123 rfl ?_
                  refine lv_ladd hx hb dX4_digest_124 ?_
                  refine lv_lstore_n (lv' := [(1, .long (((gd_1 ((fun k w => gm_rt (gh_st r 0 (fun _ => 0)) t n (nI k) (nI w)) i) (gd_2 (fun k w => gm_rt (gh_st r 0 (fun _ => 0)) t n (nI k) (nI w)) 3 (gd_2 (fun k => gm_gl (gh_st r 0 (fun _ => 0)) t n k) 8 (gd_1 (gm_cl (gh_st r 0 (fun _ => 0)) t n nn) 829 9 * 31 + (r 1 0).toInt64) n) i) j) * 31) + ((gm_rt (gh_st r 0 (fun _ => 0)) t n (nI i) (nI j)).toInt64))), (0, .ref (x 0)), (3, .int (nI i)), (4, .int (nI j))]) hx hb dX4_digest_125 rfl hl (by decide) rfl (fun ls hl => ?_)
                  refine lv_iinc (v := nI (j + 1)) (lv' := [(4, .int (nI (j + 1))), (1, .long (((gd_1 ((fun k w => gm_rt (gh_st r 0 (fun _ => 0)) t n (nI k) (nI w)) i) (gd_2 (fun k w => gm_rt (gh_st r 0 (fun _ => 0)) t n (nI k) (nI w)) 3 (gd_2 (fun k => gm_gl (gh_st r 0 (fun _ => 0)) t n k) 8 (gd_1 (gm_cl (gh_st r 0 (fun _ => 0)) t n nn) 829 9 * 31 + (r 1 0).toInt64) n) i) j) * 31) + ((gm_rt (gh_st r 0 (fun _ => 0)) t n (nI i) (nI j)).toInt64))), (0, .ref (x 0)), (3, .int (nI i))]) hx hb dX4_digest_126 hl (k := 3) rfl (nI_1 j) (by decide) rfl (fun ls hl => ?_)
                  refine lv_goto (tgt := 105) hx hb dX4_digest_129 (by decide) ?_
                  exact jh (((gd_1 ((fun k w => gm_rt (gh_st r 0 (fun _ => 0)) t n (nI k) (nI w)) i) (gd_2 (fun k w => gm_rt (gh_st r 0 (fun _ => 0)) t n (nI k) (nI w)) 3 (gd_2 (fun k => gm_gl (gh_st r 0 (fun _ => 0)) t n k) 8 (gd_1 (gm_cl (gh_st r 0 (fun _ => 0)) t n nn) 829 9 * 31 + (r 1 0).toInt64) n) i) j) * 31) + ((gm_rt (gh_st r 0 (fun _ => 0)) t n (nI i) (nI j)).toInt64)) (by first | (simp only [gd_1, c_1, c_2, c_6, c_8, ↓reduceIte, if_true, if_false]; done) | (simp only [gd_1]; simp only [c_1, c_2, c_6, c_8, ↓reduceIte, if_true, if_false]; done) | (simp [gd_1, c_1, c_2, c_6, c_8, ↓reduceIte, if_true, if_false]; done)) _ _ hP hD hS _ (lv_sub hl [2, 1, 3, 0] rfl)
              exact J105 (gd_2 (fun k w => gm_rt (gh_st r 0 (fun _ => 0)) t n (nI k) (nI w)) 3 (gd_2 (fun k => gm_gl (gh_st r 0 (fun _ => 0)) t n k) 8 (gd_1 (gm_cl (gh_st r 0 (fun _ => 0)) t n nn) 829 9 * 31 + (r 1 0).toInt64) n) i) (by first | (simp only [gd_1, c_1, c_2, c_6, ↓reduceIte, if_true, if_false]; done) | (simp only [gd_1]; simp only [c_1, c_2, c_6, ↓reduceIte, if_true, if_false]; done) | (simp [gd_1, c_1, c_2, c_6, ↓reduceIte, if_true, if_false]; done)) _ _ hP hD hS _ (lv_sub hl [1, 2, 3, 0] rfl)
          exact J97 (gd_2 (fun k => gm_gl (gh_st r 0 (fun _ => 0)) t n k) 8 (gd_1 (gm_cl (gh_st r 0 (fun _ => 0)) t n nn) 829 9 * 31 + (r 1 0).toInt64) n) (by first | (simp only [gd_2, c_1, c_2, ↓reduceIte, if_true, if_false]; done) | (simp only [gd_2]; simp only [c_1, c_2, ↓reduceIte, if_true, if_false]; done) | (simp [gd_2, c_1, c_2, ↓reduceIte, if_true, if_false]; done)) _ _ hP hD hS _ (lv_sub hl [1, 2, 0] rfl)
        · intro i hi_lo hi ih
          intro d1 e1 H locs hP hD hS ls hl
          subst e1
          refine lv_iload_n hx hb dX4_digest_50 rfl (lv_at hl 2 rfl) ?_
          refine lv_aload_n hx hb dX4_digest_51 rfl (lv_at hl 0 rfl) ?_
          refine va_get (D := G.1) (ci := 4) (v := .int (r 4 0)) (C := RX4) (T := TX4) (N := 9) hx hb hts (fun w9 h9 => List.mem_cons_of_mem _ (List.mem_append_left _ (List.mem_append_right _ h9))) hown hK hP 0 rfl rfl 4 (by decide) (hts (.fieldLink RX4 38 "GlassHarpModel" "glasses" "I") (List.mem_of_getElem? (i := 5) rfl)) (fun _ h9 => h9) rfl dX4_digest_52 ?_
          refine gh_vv (y := nI n) (hn) ?_
          refine lv_icmp_ge (tgt := 95) hx hb dX4_digest_55 (by decide) (fun c_9 => absurd c_9 (nI_ge hi (Nat.lt_of_le_of_lt hn16 (by decide)))) (fun c_9 => ?_)
          refine lv_iconst (v := 0) hx hb dX4_digest_58 (by decide) ?_
          refine lv_istore (lv' := [(4, .int 0), (0, .ref (x 0)), (1, .long (gd_2 (fun k => gm_gl (gh_st r 0 (fun _ => 0)) t n k) 8 (gd_1 (gm_cl (gh_st r 0 (fun _ => 0)) t n nn) 829 9 * 31 + (r 1 0).toInt64) i)), (3, .int (nI i))]) hx hb dX4_digest_59 hl (by decide) rfl (fun ls hl => ?_)
          have J61 : ∀ (d1 : Int64), (d1 = gd_1 (gm_gl (gh_st r 0 (fun _ => 0)) t n i) (gd_2 (fun k => gm_gl (gh_st r 0 (fun _ => 0)) t n k) 8 (gd_1 (gm_cl (gh_st r 0 (fun _ => 0)) t n nn) 829 9 * 31 + (r 1 0).toInt64) i) 0) → ∀ (H : Heap) (locs : List Loc), va_P G.1 vwCl ((wM G x (a 0) s2 (gh_st r 0 (fun _ => 0))) ++ (wT G a (x 0) t)) H → va_D A ((wM G x (a 0) s2 (gh_st r 0 (fun _ => 0))) ++ (wT G a (x 0) t)) → va_S A s.heap H locs → ∀ (ls : Array Slot), lv_has ls 5 [(0, .ref (x 0)), (1, .long d1), (3, .int (nI i)), (4, .int (nI 0))] → W p l e (headSpec wsX4_digest ({ frames := 5, cells := 137, slots := 1105, locals := 112 } : Room)).room s m ([.ref (x 0)] : List Value).toArray below meth c H locs (9 + 8 * i + 0) (81 + 64 * i + 8 * 0) (MQ below (va_Ql (fun (r9 : Int64) (_ : Unit) => r9 = gm_dg (gm_z r) t n nn) (fun _ t9 => va_P G.1 vwCl ((wM G x (a 0) s2 (gm_z r)) ++ (wT G a (x 0) t)) t9.heap) A) ([.ref (x 0)] : List Value).toArray s 137 1105 A) (F0 m 61 ls []) := by
            refine gh_loop (n := 8) (i0 := 0) (Nat.zero_le _) (P := fun j => ∀ (d1 : Int64), (d1 = gd_1 (gm_gl (gh_st r 0 (fun _ => 0)) t n i) (gd_2 (fun k => gm_gl (gh_st r 0 (fun _ => 0)) t n k) 8 (gd_1 (gm_cl (gh_st r 0 (fun _ => 0)) t n nn) 829 9 * 31 + (r 1 0).toInt64) i) j) → ∀ (H : Heap) (locs : List Loc), va_P G.1 vwCl ((wM G x (a 0) s2 (gh_st r 0 (fun _ => 0))) ++ (wT G a (x 0) t)) H → va_D A ((wM G x (a 0) s2 (gh_st r 0 (fun _ => 0))) ++ (wT G a (x 0) t)) → va_S A s.heap H locs → ∀ (ls : Array Slot), lv_has ls 5 [(0, .ref (x 0)), (1, .long d1), (3, .int (nI i)), (4, .int (nI j))] → W p l e (headSpec wsX4_digest ({ frames := 5, cells := 137, slots := 1105, locals := 112 } : Room)).room s m ([.ref (x 0)] : List Value).toArray below meth c H locs (9 + 8 * i + j) (81 + 64 * i + 8 * j) (MQ below (va_Ql (fun (r9 : Int64) (_ : Unit) => r9 = gm_dg (gm_z r) t n nn) (fun _ t9 => va_P G.1 vwCl ((wM G x (a 0) s2 (gm_z r)) ++ (wT G a (x 0) t)) t9.heap) A) ([.ref (x 0)] : List Value).toArray s 137 1105 A) (F0 m 61 ls [])) ?_ ?_
            · skip
              intro d1 e1 H locs hP hD hS ls hl
              subst e1
              refine lv_iload hx hb dX4_digest_61 (lv_at hl 3 rfl) ?_
              refine lv_bipush (v := 7) hx hb dX4_digest_63 (by decide) ?_
              refine lv_icmp_gt (tgt := 89) hx hb dX4_digest_65 (by decide) (fun c_10 => ?_) (fun c_10 => absurd (nI_lt (a := 7) (b := 8) (by decide) (by decide)) c_10)
              refine lv_iinc (v := nI (i + 1)) (lv' := [(3, .int (nI (i + 1))), (0, .ref (x 0)), (1, .long (gd_1 (gm_gl (gh_st r 0 (fun _ => 0)) t n i) (gd_2 (fun k => gm_gl (gh_st r 0 (fun _ => 0)) t n k) 8 (gd_1 (gm_cl (gh_st r 0 (fun _ => 0)) t n nn) 829 9 * 31 + (r 1 0).toInt64) i) 8)), (4, .int (nI 8))]) hx hb dX4_digest_89 hl (k := 2) rfl (nI_1 i) (by decide) rfl (fun ls hl => ?_)
              refine lv_goto (tgt := 50) hx hb dX4_digest_92 (by decide) ?_
              refine W.widen (k := 9 + 8 * (i + 1)) (n := 81 + 64 * (i + 1)) (by omega) (by omega) ?_
              exact ih (gd_1 (gm_gl (gh_st r 0 (fun _ => 0)) t n i) (gd_2 (fun k => gm_gl (gh_st r 0 (fun _ => 0)) t n k) 8 (gd_1 (gm_cl (gh_st r 0 (fun _ => 0)) t n nn) 829 9 * 31 + (r 1 0).toInt64) i) 8) (by first | (simp only [gd_2, c_1, c_9, c_10, ↓reduceIte, if_true, if_false]; done) | (simp only [gd_2]; simp only [c_1, c_9, c_10, ↓reduceIte, if_true, if_false]; done) | (simp [gd_2, c_1, c_9, c_10, ↓reduceIte, if_true, if_false]; done)) _ _ hP hD hS _ (lv_sub hl [1, 2, 0] rfl)
            · intro j hj_lo hj jh
              intro d1 e1 H locs hP hD hS ls hl
              subst e1
              refine lv_iload hx hb dX4_digest_61 (lv_at hl 3 rfl) ?_
              refine lv_bipush (v := 7) hx hb dX4_digest_63 (by decide) ?_
              refine lv_icmp_gt (tgt := 89) hx hb dX4_digest_65 (by decide) (fun c_11 => absurd c_11 (nI_nlt (a := 7) (by omega) (by decide))) (fun c_11 => ?_)
              refine lv_lload_n hx hb dX4_digest_68 rfl (lv_at hl 1 rfl) ?_
              refine lv_ldc2 hx hb hown (hts (.constantLong RX4 139 (31)) (List.mem_of_getElem? (i := 3) rfl)) dX4_digest_69 ?_
              refine lv_lmul hx hb dX4_digest_72 ?_
              refine lv_aload_n hx hb dX4_digest_73 rfl (lv_at hl 0 rfl) ?_
              refine lv_iload_n hx hb dX4_digest_74 rfl (lv_at hl 2 rfl) ?_
              refine lv_iload hx hb dX4_digest_75 (lv_at hl 3 rfl) ?_
              refine gh_cw (wr := []) (ws' := (wM G x (a 0) s2 (gh_st r 0 (fun _ => 0))) ++ (wT G a (x 0) t)) (va_runV (As := [.int (nI i), .int (nI j)]) (rest := [.long ((gd_1 (gm_gl (gh_st r 0 (fun _ => 0)) t n i) (gd_2 (fun k => gm_gl (gh_st r 0 (fun _ => 0)) t n k) 8 (gd_1 (gm_cl (gh_st r 0 (fun _ => 0)) t n nn) 829 9 * 31 + (r 1 0).toInt64) i) j) * 31)]) ⟨hx, hb, hml, hown, hts⟩ (c_X4_glassTold l G H.size x (gh_st r 0 (fun _ => 0)) a t s2 n i j (hn) (hn16) (hsz) (hi) (hj)) (cwV 2 hts gX4_digest_X4_glassTold rfl rfl rfl ⟨rfl, hdS_X4_glassTold⟩ ⟨Nat.le_of_ble_eq_true rfl, Nat.le_of_ble_eq_true rfl⟩) (gh_wV hE hP hD (ci := 4) (q0 := 0) rfl rfl) rfl rfl hl.1 rfl (lv_room (Nat.le_of_ble_eq_true rfl)) dX4_digest_77 ⟨(by show 9 + 8 * i + j + 1 ≤ 137; omega), (by show 81 + 64 * i + 8 * j + 8 ≤ 1105; omega)⟩) hP hD hS hA [0, 1, 2, 3, 4, 5, 6, 7, 8, 9, 10] [] [0, 1, 2, 3, 4, 5, 6, 7, 8, 9, 10] rfl rfl (by decide) (by decide) (by decide) [x 0, x 3, x 5, x 6, a 0, a 4, a 5, a 6, a 7, a 8, a 9] [x 0, x 3, x 5, x 6, a 0, a 4, a 5, a 6, a 7, a 8, a 9] rfl rfl rfl rfl rfl (fun H locs hP hD hS => ?_)
              refine lv_i2l (v := (gm_gl (gh_st r 0 (fun _ => 0)) t n i j).toInt64) hx hb dX4_digest_80 rfl ?_
              refine lv_ladd hx hb dX4_digest_81 ?_
              refine lv_lstore_n (lv' := [(1, .long (((gd_1 (gm_gl (gh_st r 0 (fun _ => 0)) t n i) (gd_2 (fun k => gm_gl (gh_st r 0 (fun _ => 0)) t n k) 8 (gd_1 (gm_cl (gh_st r 0 (fun _ => 0)) t n nn) 829 9 * 31 + (r 1 0).toInt64) i) j) * 31) + ((gm_gl (gh_st r 0 (fun _ => 0)) t n i j).toInt64))), (0, .ref (x 0)), (3, .int (nI i)), (4, .int (nI j))]) hx hb dX4_digest_82 rfl hl (by decide) rfl (fun ls hl => ?_)
              refine lv_iinc (v := nI (j + 1)) (lv' := [(4, .int (nI (j + 1))), (1, .long (((gd_1 (gm_gl (gh_st r 0 (fun _ => 0)) t n i) (gd_2 (fun k => gm_gl (gh_st r 0 (fun _ => 0)) t n k) 8 (gd_1 (gm_cl (gh_st r 0 (fun _ => 0)) t n nn) 829 9 * 31 + (r 1 0).toInt64) i) j) * 31) + ((gm_gl (gh_st r 0 (fun _ => 0)) t n i j).toInt64))), (0, .ref (x 0)), (3, .int (nI i))]) hx hb dX4_digest_83 hl (k := 3) rfl (nI_1 j) (by decide) rfl (fun ls hl => ?_)
              refine lv_goto (tgt := 61) hx hb dX4_digest_86 (by decide) ?_
              refine W.widen (k := 9 + 8 * i + (j + 1)) (n := 81 + 64 * i + 8 * (j + 1)) (by omega) (by omega) ?_
              exact jh (((gd_1 (gm_gl (gh_st r 0 (fun _ => 0)) t n i) (gd_2 (fun k => gm_gl (gh_st r 0 (fun _ => 0)) t n k) 8 (gd_1 (gm_cl (gh_st r 0 (fun _ => 0)) t n nn) 829 9 * 31 + (r 1 0).toInt64) i) j) * 31) + ((gm_gl (gh_st r 0 (fun _ => 0)) t n i j).toInt64)) (by first | (simp only [gd_1, c_1, c_9, c_11, ↓reduceIte, if_true, if_false]; done) | (simp only [gd_1]; simp only [c_1, c_9, c_11, ↓reduceIte, if_true, if_false]; done) | (simp [gd_1, c_1, c_9, c_11, ↓reduceIte, if_true, if_false]; done)) _ _ hP hD hS _ (lv_sub hl [2, 1, 3, 0] rfl)
          refine W.widen (k := 9 + 8 * i + 0) (n := 81 + 64 * i + 8 * 0) (by omega) (by omega) ?_
          exact J61 (gd_2 (fun k => gm_gl (gh_st r 0 (fun _ => 0)) t n k) 8 (gd_1 (gm_cl (gh_st r 0 (fun _ => 0)) t n nn) 829 9 * 31 + (r 1 0).toInt64) i) (by first | (simp only [gd_1, c_1, c_9, ↓reduceIte, if_true, if_false]; done) | (simp only [gd_1]; simp only [c_1, c_9, ↓reduceIte, if_true, if_false]; done) | (simp [gd_1, c_1, c_9, ↓reduceIte, if_true, if_false]; done)) _ _ hP hD hS _ (lv_sub hl [1, 2, 3, 0] rfl)
      refine W.widen (k := 9 + 8 * 0) (n := 81 + 64 * 0) (by omega) (by omega) ?_
      exact J50 (((gd_1 (gm_cl (gh_st r 0 (fun _ => 0)) t n nn) 829 9) * 31) + ((r 1 0).toInt64)) (by first | (simp only [gd_2, c_1, ↓reduceIte, if_true, if_false]; done) | (simp only [gd_2]; simp only [c_1, ↓reduceIte, if_true, if_false]; done) | (simp [gd_2, c_1, ↓reduceIte, if_true, if_false]; done)) _ _ hP hD hS _ (lv_sub hl [2, 1, 0] rfl)
    · intro i hi_lo hi ih
      intro d1 e1 H locs hP hD hS ls hl
      subst e1
      refine lv_iload_n hx hb dX4_digest_11 rfl (lv_at hl 2 rfl) ?_
      refine lv_bipush (v := 8) hx hb dX4_digest_12 (by decide) ?_
      refine lv_icmp_gt (tgt := 36) hx hb dX4_digest_14 (by decide) (fun c_12 => absurd c_12 (nI_nlt (a := 8) (by omega) (by decide))) (fun c_12 => ?_)
      refine lv_lload_n hx hb dX4_digest_17 rfl (lv_at hl 1 rfl) ?_
      refine lv_ldc2 hx hb hown (hts (.constantLong RX4 139 (31)) (List.mem_of_getElem? (i := 3) rfl)) dX4_digest_18 ?_
      refine lv_lmul hx hb dX4_digest_21 ?_
      refine lv_aload_n hx hb dX4_digest_22 rfl (lv_at hl 0 rfl) ?_
      refine lv_iload_n hx hb dX4_digest_23 rfl (lv_at hl 2 rfl) ?_
      refine gh_cw (wr := []) (ws' := (wM G x (a 0) s2 (gh_st r 0 (fun _ => 0))) ++ (wT G a (x 0) t)) (va_runV (As := [.int (nI i)]) (rest := [.long ((gd_1 (gm_cl (gh_st r 0 (fun _ => 0)) t n nn) 829 i) * 31)]) ⟨hx, hb, hml, hown, hts⟩ (c_X4_counted l G H.size x (gh_st r 0 (fun _ => 0)) a t s2 n nn i (hn) (hn16) (hsz) (hz) (hz32) (hi)) (cwV 1 hts gX4_digest_X4_counted rfl rfl rfl ⟨rfl, hdS_X4_counted⟩ ⟨Nat.le_of_ble_eq_true rfl, Nat.le_of_ble_eq_true rfl⟩) (gh_wV hE hP hD (ci := 4) (q0 := 0) rfl rfl) rfl rfl hl.1 rfl (lv_room (Nat.le_of_ble_eq_true rfl)) dX4_digest_24 ⟨(by show i + 1 ≤ 137; omega), (by show 9 * i + 9 ≤ 1105; omega)⟩) hP hD hS hA [0, 1, 2, 3, 4, 5, 6, 7, 8, 9, 10] [] [0, 1, 2, 3, 4, 5, 6, 7, 8, 9, 10] rfl rfl (by decide) (by decide) (by decide) [x 0, x 3, x 5, x 6, a 0, a 4, a 5, a 6, a 7, a 8, a 9] [x 0, x 3, x 5, x 6, a 0, a 4, a 5, a 6, a 7, a 8, a 9] rfl rfl rfl rfl rfl (fun H locs hP hD hS => ?_)
      refine lv_i2l (v := (gm_cl (gh_st r 0 (fun _ => 0)) t n nn i).toInt64) hx hb dX4_digest_27 rfl ?_
      refine lv_ladd hx hb dX4_digest_28 ?_
      refine lv_lstore_n (lv' := [(1, .long (((gd_1 (gm_cl (gh_st r 0 (fun _ => 0)) t n nn) 829 i) * 31) + ((gm_cl (gh_st r 0 (fun _ => 0)) t n nn i).toInt64))), (0, .ref (x 0)), (3, .int (nI i))]) hx hb dX4_digest_29 rfl hl (by decide) rfl (fun ls hl => ?_)
      refine lv_iinc (v := nI (i + 1)) (lv' := [(3, .int (nI (i + 1))), (1, .long (((gd_1 (gm_cl (gh_st r 0 (fun _ => 0)) t n nn) 829 i) * 31) + ((gm_cl (gh_st r 0 (fun _ => 0)) t n nn i).toInt64))), (0, .ref (x 0))]) hx hb dX4_digest_30 hl (k := 2) rfl (nI_1 i) (by decide) rfl (fun ls hl => ?_)
      refine lv_goto (tgt := 11) hx hb dX4_digest_33 (by decide) ?_
      refine W.widen (k := (i + 1)) (n := 9 * (i + 1)) (by omega) (by omega) ?_
      exact ih (((gd_1 (gm_cl (gh_st r 0 (fun _ => 0)) t n nn) 829 i) * 31) + ((gm_cl (gh_st r 0 (fun _ => 0)) t n nn i).toInt64)) (by first | (simp only [gd_1, c_12, ↓reduceIte, if_true, if_false]; done) | (simp only [gd_1]; simp only [c_12, ↓reduceIte, if_true, if_false]; done) | (simp [gd_1, c_12, ↓reduceIte, if_true, if_false]; done)) _ _ hP hD hS _ (lv_sub hl [2, 1, 0] rfl)
  refine W.widen (k := 0) (n := 9 * 0) (by omega) (by omega) ?_
  exact J11 829 (by first | (simp only [gd_1, ↓reduceIte, if_true, if_false]; done) | (simp only [gd_1, ↓reduceIte, if_true, if_false]; rfl) | (simp [gd_1, ↓reduceIte, if_true, if_false]; done)) _ _ hP hD hS _ (lv_sub hl [2, 1, 0] rfl)
