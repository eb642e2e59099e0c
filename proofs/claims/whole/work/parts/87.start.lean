/-! the law's start -/
theorem gl_nal {p : Program} {l : Launch} {e : Env} {R : Room} {s : State} {m : MethodId} {args : Array Value} {below : List Frame} {meth : Method} {c : Code} {H : Heap} {locs : List Loc} {cells slots : Nat} {Q : State → Prop} {cc : ByteArray} {pc : Nat} {ls : Array Slot} {rest : List Value} {A : Nat → Prop} {ws : va_W} {H0 : Heap} {G : gh_G} (hexec : p.tables.exec = Jvm.exec) (hb : c.code = cc) (harr : (Cond.arrayClass .long).before args s = true) (hK : va_K G.1 vwCl (gh_ty G) s) (hP : va_P G.1 vwCl ws H) (hD : va_D A ws) (hS : va_S A H0 H locs) (hA : ∀ q, H0.size ≤ q → A q)
    (hcells : cells + 1 ≤ R.cells) (hslots : slots + 1 ≤ R.slots) (hdg : decode cc pc = .ok (.newarray .long, 2))
    (kk : ∀ (q : Nat) (H1 : Heap), va_P G.1 vwCl (ws ++ wL G q (fun _ => 0)) H1 → va_D A (ws ++ wL G q (fun _ => 0)) → va_S A H0 H1 locs →
      W p l e R s m args below meth c H1 locs (cells + 1) (slots + 1) Q (F0 m (pc + 2) ls (.ref q :: rest))) : W p l e R s m args below meth c H locs cells slots Q (F0 m pc ls (.int 1 :: rest)) := by
  refine va_newa (atype := .long) (a0 := (1, .inr (.inl (fun _ => 0)))) hexec hb harr rfl hK hP hD hS hA (fun cA => rfl) (by decide) (by decide) (by decide) hcells hslots hdg (fun q cA H1 hK1 h1 h2 h3 => ?_)
  have e1 : s.vm.findClass ("[" ++ FieldType.long.toString) = some cA := (hK1.2 3 (cA, .long) rfl).2
  have e2 : s.vm.findClass ("[" ++ FieldType.long.toString) = some G.2.2.2 := (hK.2 2 (G.2.2.2, .long) rfl).2
  cases Option.some.inj (e1.symm.trans e2)
  exact kk q H1 h1 h2 h3
set_option maxHeartbeats 8000000 in
set_option maxRecDepth 100000 in
theorem whole_start {p : Program} {e : Env} {s : State} {m : MethodId} {below : List Frame} {meth : Method} {c : Code} (l : Launch) (hflags : l.flags = flags0) {b L : Nat} {xs : Nat → Int32} (hL : L ≤ 2048) (C0 : lw_At p s m meth c b L xs) : W p l e room_1 s m #[Value.ref b] below meth c s.heap [] 0 0 (lw_Z below #[Value.ref b] s) (entryFrame m ([Value.ref b] : List Value).toArray 9) := by
  obtain ⟨hx, hb, hr, hml, hown, hts, hX, hbl, hlocks, hgv⟩ := C0
  have hd0 := Drawn.sameBut.refl s.drawn lw_cs
  obtain ⟨G, hK⟩ := gl_K hts
  have hE : gh_E G s := ⟨hK, gl_nest hts⟩
  have hV : gx_V s := gl_V hts hgv
  have hA : ∀ q9 : Nat, s.heap.size ≤ q9 → (fun q9 : Nat => s.heap.size ≤ q9) q9 := fun _ h9 => h9
  have hZ : gx_Z (fun q9 : Nat => s.heap.size ≤ q9) s s.heap := gl_Z hts hgv (fun a9 h9 => Nat.not_le.mpr h9)
  have hfl : l.stackTraces = false := by unfold Launch.stackTraces; rw [hflags]; decide
  have hts1 : ∀ w9 ∈ wsL_law, w9.before #[Value.ref b] s = true := fun w9 h9 => hts w9 (wsL_law_in w9 h9)
  have hown1 : s.vm.findClass RL = some m.cls := hown
  have hS : va_S (fun q9 : Nat => s.heap.size ≤ q9) s.heap s.heap [] := va_S.rf
  have hP : va_P G.1 vwCl [] s.heap := fun k q h => by simp at h
  have hD : va_D (fun q9 : Nat => s.heap.size ≤ q9) [] := ⟨fun i j p q h => by simp at h, fun k q h => by simp at h⟩
  have hl := lv_entry ([.ref b]) (n := 9) (Nat.le_of_ble_eq_true rfl)
  rw [lg_entry_eq]
  generalize (lg_sl ([.ref b]) ++ List.replicate (9 - (lg_sl ([.ref b])).length) Slot.unset).toArray = ls at hl ⊢
  have hl : lv_has ls 9 [(0, .ref b)] := hl
  refine va_new (ci := 2) (fs := [.null, .null, .null]) (C := RX2) (T := TX2) (N := 3) hx hb hts1 inlX2 tyX2 tyX2_ok hown1 (hts1 (.classLink RL 8 RX2) (by decide +kernel)) (hts1 (.instantiable RX2 3) (by decide +kernel)) (hts1 (.initialized RX2) (by decide +kernel)) hK hP hD hS hA rfl gi_dfX2 (Nat.le_of_ble_eq_true rfl) (Nat.le_of_ble_eq_true rfl) dL_law_0 (fun qh H hP hD hS => ?_)
  have hP : va_P G.1 vwCl ([(qh, .inr (2, [.null, .null, .null]))]) H := hP
  have hD : va_D (fun q9 : Nat => s.heap.size ≤ q9) ([(qh, .inr (2, [.null, .null, .null]))]) := hD
  refine lv_dup hx hb dL_law_3 rfl ?_
  have hFc := va_free (wc := [(qh, .inr (2, [.null, .null, .null]))]) hD hS hA [0] rfl
  refine va_callv (va_runI (As := []) (rest := [.ref qh]) ⟨hx, hb, hml, hown1, hts1⟩ (c_X2_init l G H.size qh) (cwI 0 hts1 gL_law_X2_init rfl rfl rfl (hts1 (.initialized RX2) (by decide +kernel)) (hts1 (.methodLink RL 63 yX2_init) (by decide +kernel)) (hts1 (.instanceMethod yX2_init) (by decide +kernel)) rfl hdS_X2_init ⟨Nat.le_of_ble_eq_true rfl, Nat.le_of_ble_eq_true rfl⟩) (gh_wS hE hP hD) rfl rfl hl.1 rfl (lv_room (Nat.le_of_ble_eq_true rfl)) dL_law_4 ⟨Nat.le_of_ble_eq_true rfl, Nat.le_of_ble_eq_true rfl⟩) hS (fun q9 _ h9 => hFc q9 h9) hFc (fun u9 t9 H locs ht9 hvm9 hw9 hB9 hz9 hk9 hS => ?_)
  obtain ⟨a, bb, d⟩ := u9
  obtain ⟨hP9, hD9⟩ := hB9
  rw [ht9] at hP9
  obtain ⟨hP, hD⟩ := va_join (wr := []) (w1 := wH qh (bb 5) (a 0) (d 0) ++ wS G bb gi_z ++ wO G a (bb 5) gi_o ++ wO G d (bb 5) gi_o) hP hD [0] [] rfl rfl (by decide) (by decide) hk9 hFc hP9 hD9
  have hP : va_P G.1 vwCl (wH qh (bb 5) (a 0) (d 0) ++ wS G bb gi_z ++ wO G a (bb 5) gi_o ++ wO G d (bb 5) gi_o) H := hP
  have hD : va_D (fun q9 : Nat => s.heap.size ≤ q9) (wH qh (bb 5) (a 0) (d 0) ++ wS G bb gi_z ++ wO G a (bb 5) gi_o ++ wO G d (bb 5) gi_o) := hD
  refine lv_astore_n (lv' := [(1, .ref qh), (0, .ref b)]) hx hb dL_law_7 rfl hl (by decide) rfl (fun ls hl => ?_)
  refine va_new (ci := 4) (fs := [.int 0, .int 0, .int 0, .null, .int 0, .null, .null, .null, .null]) (C := RX4) (T := TX4) (N := 9) hx hb hts1 inlX4 tyX4 tyX4_ok hown1 (hts1 (.classLink RL 64 RX4) (by decide +kernel)) (hts1 (.instantiable RX4 9) (by decide +kernel)) (hts1 (.initialized RX4) (by decide +kernel)) hK hP hD hS hA rfl gi_dfX4 (Nat.le_of_ble_eq_true rfl) (Nat.le_of_ble_eq_true rfl) dL_law_8 (fun qm H hP hD hS => ?_)
  have hP : va_P G.1 vwCl ((wH qh (bb 5) (a 0) (d 0) ++ wS G bb gi_z ++ wO G a (bb 5) gi_o ++ wO G d (bb 5) gi_o) ++ [(qm, .inr (4, [.int 0, .int 0, .int 0, .null, .int 0, .null, .null, .null, .null]))]) H := hP
  have hD : va_D (fun q9 : Nat => s.heap.size ≤ q9) ((wH qh (bb 5) (a 0) (d 0) ++ wS G bb gi_z ++ wO G a (bb 5) gi_o ++ wO G d (bb 5) gi_o) ++ [(qm, .inr (4, [.int 0, .int 0, .int 0, .null, .int 0, .null, .null, .null, .null]))]) := hD
  refine lv_dup hx hb dL_law_11 rfl ?_
  have hFc := va_free (wc := [(qm, .inr (4, [.int 0, .int 0, .int 0, .null, .int 0, .null, .null, .null, .null]))]) hD hS hA [25] rfl
  refine va_callv (va_runI (As := []) (rest := [.ref qm]) ⟨hx, hb, hml, hown1, hts1⟩ (c_X4_init l G H.size qm) (cwI 0 hts1 gL_law_X4_init rfl rfl rfl (hts1 (.initialized RX4) (by decide +kernel)) (hts1 (.methodLink RL 66 yX4_init) (by decide +kernel)) (hts1 (.instanceMethod yX4_init) (by decide +kernel)) rfl hdS_X4_init ⟨Nat.le_of_ble_eq_true rfl, Nat.le_of_ble_eq_true rfl⟩) (gh_wS hE (hP.sub (ws' := [(qm, .inr (4, [.int 0, .int 0, .int 0, .null, .int 0, .null, .null, .null, .null]))]) [25] rfl) (hD.sub (ws' := [(qm, .inr (4, [.int 0, .int 0, .int 0, .null, .int 0, .null, .null, .null, .null]))]) [25] (by decide) rfl)) rfl rfl hl.1 rfl (lv_room (Nat.le_of_ble_eq_true rfl)) dL_law_12 ⟨Nat.le_of_ble_eq_true rfl, Nat.le_of_ble_eq_true rfl⟩) hS (fun q9 _ h9 => hFc q9 h9) hFc (fun u9 t9 H locs ht9 hvm9 hw9 hB9 hz9 hk9 hS => ?_)
  obtain ⟨x, ta, td⟩ := u9
  have hw9 : x 0 = qm := hw9
  subst hw9
  obtain ⟨hP9, hD9⟩ := hB9
  rw [ht9] at hP9
  obtain ⟨hP, hD⟩ := va_join (wr := wH qh (bb 5) (a 0) (d 0) ++ wS G bb gi_z ++ wO G a (bb 5) gi_o ++ wO G d (bb 5) gi_o) (w1 := wM G x (ta 0) (td 0) gi_r ++ wT G ta (x 0) gi_t ++ wT G td (x 0) gi_t) hP hD [25] [0, 1, 2, 3, 4, 5, 6, 7, 8, 9, 10, 11, 12, 13, 14, 15, 16, 17, 18, 19, 20, 21, 22, 23, 24] rfl rfl (by decide +kernel) (by decide +kernel) hk9 hFc hP9 hD9
  refine lv_astore_n (lv' := [(2, .ref (x 0)), (1, .ref qh), (0, .ref b)]) hx hb dL_law_15 rfl hl (by decide) rfl (fun ls hl => ?_)
  refine lv_iconst (v := 1) hx hb dL_law_16 (by decide) ?_
  refine gl_nal hx hb (hts1 (.arrayClass .long) (by decide +kernel)) hK hP hD hS hA (Nat.le_of_ble_eq_true rfl) (Nat.le_of_ble_eq_true rfl) dL_law_17 (fun ja H hP hD hS => ?_)
  have hP : va_P G.1 vwCl (wLaw G qh a d bb x ta td ja gi_o gi_o gi_z gi_r gi_t gi_t (fun _ => 0)) H := hP.sub [0, 5, 6, 7, 8, 9, 10, 11, 12, 13, 14, 15, 16, 17, 18, 19, 20, 21, 22, 23, 24, 1, 2, 3, 4, 25, 26, 27, 28, 29, 30, 31, 32, 33, 34, 35, 36, 37, 38, 39, 40, 41, 42, 43] rfl
  have hD : va_D (fun q9 : Nat => s.heap.size ≤ q9) (wLaw G qh a d bb x ta td ja gi_o gi_o gi_z gi_r gi_t gi_t (fun _ => 0)) := hD.sub [0, 5, 6, 7, 8, 9, 10, 11, 12, 13, 14, 15, 16, 17, 18, 19, 20, 21, 22, 23, 24, 1, 2, 3, 4, 25, 26, 27, 28, 29, 30, 31, 32, 33, 34, 35, 36, 37, 38, 39, 40, 41, 42, 43] (by decide +kernel) rfl
  refine lv_astore_n (lv' := [(3, .ref ja), (2, .ref (x 0)), (1, .ref qh), (0, .ref b)]) hx hb dL_law_19 rfl hl (by decide) rfl (fun ls hl => ?_)
  refine lv_iconst (v := nI 0) hx hb dL_law_20 (by decide) ?_
  refine lv_istore (lv' := [(4, .int (nI 0)), (3, .ref ja), (2, .ref (x 0)), (1, .ref qh), (0, .ref b)]) hx hb dL_law_21 hl (by decide) rfl (fun ls hl => ?_)
  refine W.base ?_
  exact gl_loop hfl hx hb hml hr hlocks hown1 hts1 hE hV hX hbl hZ hL L 0 (by omega) (by omega) s.drawn hd0 H _ _ _ ls gi_o gi_o gi_z gi_r gi_t gi_t (fun _ => 0) 0 0 gs_init hP hD hS (Nat.le_of_ble_eq_true rfl) (Nat.le_of_ble_eq_true rfl) (lv_sub hl [0, 4, 3, 2, 1] rfl)
