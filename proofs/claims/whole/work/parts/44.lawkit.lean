/-! rows and shapes for the law's walk -/
section GLK
variable {p : Program} {l : Launch} {e : Env} {R : Room} {s : State} {m : MethodId} {args : Array Value} {below : List Frame} {meth : Method} {c : Code} {H : Heap} {locs : List Loc} {cells slots : Nat} {Q : State → Prop}
variable {cc : ByteArray} {pc : Nat} {ls : Array Slot} {rest : List Value}
theorem gl_lcmp (hexec : p.tables.exec = Jvm.exec) (hb : c.code = cc) {x y : Int64} (hxy : x = y) (hdg : decode cc pc = .ok (.lcmp, 1))
    (k : W p l e R s m args below meth c H locs cells slots Q (F0 m (pc + 1) ls (.int 0 :: rest))) : W p l e R s m args below meth c H locs cells slots Q (F0 m pc ls (.long y :: .long x :: rest)) := by
  subst hxy
  intro T hT X
  obtain ⟨t, a, b⟩ := k T hT X
  refine ⟨t, ?_, b⟩
  jvm_step X.here [X.here.top, hexec, hb, hdg]
  simpa using a
/-- the law reads an int of its script: five rows -/
theorem gl_ld {A : Nat → Prop} {H0 : Heap} {b0 L k : Nat} {xs : Nat → Int32} {y : Int32} {w : Int} (hexec : p.tables.exec = Jvm.exec) (hb : c.code = cc) (hX : va_X b0 L xs s H0) (hbl : b0 < H0.size) (hbA : ¬ A b0) (hS : va_S A H0 H locs) (h0 : ls[0]? = some (.val (.ref b0))) (h4 : ls[4]? = some (.val (.int (nI k)))) (j : Nat) (hj : k + j < L) (hL : L ≤ 2048) (hw : Int32.ofInt w = nI j) (hy : xs (k + j) = y)
    (d0 : decode cc pc = .ok (.aload_n 0, 1)) (d1 : decode cc (pc + 1) = .ok (.iload 4, 2)) (d2 : decode cc (pc + 3) = .ok (.iconst w, 1)) (d3 : decode cc (pc + 4) = .ok (.iadd, 1)) (d4 : decode cc (pc + 5) = .ok (.iaload, 1))
    (kk : W p l e R s m args below meth c H locs cells slots Q (F0 m (pc + 6) ls (.int y :: rest))) : W p l e R s m args below meth c H locs cells slots Q (F0 m pc ls rest) := by
  refine lv_aload_n hexec hb d0 rfl h0 ?_
  refine lv_iload hexec hb d1 h4 ?_
  refine lv_iconst hexec hb d2 hw ?_
  refine lv_iadd hexec hb d3 ?_
  rw [nI_add]
  refine va_sld hexec hb hX hbl hbA hS (vp_in_nI hj (by omega)) d4 ?_
  rw [nI_clamp (by omega), hy]
  exact kk
end GLK
abbrev wLaw (G : gh_G) (h : Nat) (a d b x u f : Nat → Nat) (ja : Nat) (o q z r t p : gh_B) (jo : Nat → Int64) : va_W := (wH h (b 5) (a 0) (d 0)) ++ (wO G a (b 5) o) ++ (wO G d (b 5) q) ++ (wS G b z) ++ (wM G x (u 0) (f 0) r) ++ (wT G u (x 0) t) ++ (wT G f (x 0) p) ++ (wL G ja jo)
theorem gl_out {k9 v9 X : Int32} {jo : Nat → Int64} (h : k9 = 0 → v9 = X) : k9 = 0 → (gx_if k9 (vp_updL jo 0 X.toInt64) jo) 0 = v9.toInt64 := fun h9 => by rw [gx_if_p h9, vp_updL, if_pos rfl, h h9]
section GLT
variable {p : Program} {l : Launch} {e : Env} {s : State} {m : MethodId} {args : Array Value} {below : List Frame} {meth : Method} {c : Code} {H : Heap} {locs : List Loc} {cells slots : Nat} {Q : State → Prop}
variable {pc : Nat} {ls : Array Slot}
/-- the two comparisons behind a call of both: 'm.thrown() != k', 'k == 0 && out[0] != b' -/
theorem gl_tail {G : gh_G} {h : Nat} {a d b x u f : Nat → Nat} {ja b0 : Nat} {o q z r t w : gh_B} {jo : Nat → Int64} {k9 v9 i9 : Int32} {off : Int}
    (hx : p.tables.exec = Jvm.exec) (hb : c.code = cL_law) (hml : c.maxLocals = 9) (hown : s.vm.findClass RL = some m.cls) (hts : ∀ w ∈ wsL_law, w.before args s = true) (hE : gh_E G s) (hP : va_P G.1 vwCl (wLaw G h a d b x u f ja o q z r t w jo) H)
    (hc : cells ≤ room_1.cells) (hs : slots ≤ room_1.slots) (hcode : r 0 0 = k9) (hval : k9 = 0 → jo 0 = v9.toInt64)
    (hl : lv_has ls 9 [(6, .int v9), (5, .int k9), (4, .int i9), (0, .ref b0), (1, .ref h), (2, .ref (x 0)), (3, .ref ja)])
    (d0 : decode cL_law pc = .ok (.aload_n 2, 1)) (d1 : decode cL_law (pc + 1) = .ok (.invokevirtual 73, 3)) (d2 : decode cL_law (pc + 4) = .ok (.iload 5, 2)) (d3 : decode cL_law (pc + 6) = .ok (.if_icmp .eq 5, 3)) (d4 : decode cL_law (pc + 11) = .ok (.iload 5, 2)) (d5 : decode cL_law (pc + 13) = .ok (.ifCond .ne 15, 3)) (d6 : decode cL_law (pc + 16) = .ok (.aload_n 3, 1)) (d7 : decode cL_law (pc + 17) = .ok (.iconst 0, 1)) (d8 : decode cL_law (pc + 18) = .ok (.laload, 1)) (d9 : decode cL_law (pc + 19) = .ok (.iload 6, 2)) (d10 : decode cL_law (pc + 21) = .ok (.i2l, 1)) (d11 : decode cL_law (pc + 22) = .ok (.lcmp, 1)) (d12 : decode cL_law (pc + 23) = .ok (.ifCond .eq 5, 3)) (d13 : decode cL_law (pc + 28) = .ok (.goto off, 3)) (ht : ((pc + 28 : Nat) : Int) + off = ((1171 : Nat) : Int))
    (kk : W p l e room_1 s m args below meth c H locs cells slots Q (F0 m 1171 ls [])) : W p l e room_1 s m args below meth c H locs cells slots Q (F0 m pc ls []) := by
  have kg : W p l e room_1 s m args below meth c H locs cells slots Q (F0 m (pc + 28) ls []) := lv_goto (tgt := 1171) hx hb d13 ht kk
  refine lv_aload_n hx hb d0 rfl (lv_at hl 5 rfl) ?_
  have run := va_runV (As := []) (rest := []) (g := F0 m (pc + 1) ls [.ref (x 0)]) (locs := locs) (cells := cells) (slots := slots) (e := e) (below := below) (meth := meth) (R := room_1) ⟨hx, hb, hml, hown, hts⟩ (c_X4_thrown l G x r u t (f 0)) (cwV 0 hts gL_law_X4_thrown rfl rfl rfl ⟨rfl, hdS_X4_thrown⟩ ⟨Nat.le_of_ble_eq_true rfl, Nat.le_of_ble_eq_true rfl⟩) (gh_rV hE (hP.sub (ws' := wM G x (u 0) (f 0) r) [25, 26, 27, 28] rfl) (ci := 4) (q0 := 0) rfl rfl) rfl rfl hl.1 rfl (lv_room (Nat.le_of_ble_eq_true rfl)) d1 ⟨hc, hs⟩
  refine gh_ci run ?_
  refine lv_iload hx hb d2 (lv_at hl 1 rfl) ?_
  refine lv_icmp_eq (tgt := pc + 11) hx hb d3 (by omega) (fun _ => ?_) (fun h9 => absurd hcode h9)
  refine lv_iload hx hb d4 (lv_at hl 1 rfl) ?_
  refine lv_if_ne (tgt := pc + 28) hx hb d5 (by omega) (fun _ => kg) (fun h9 => ?_)
  refine lv_aload_n hx hb d6 rfl (lv_at hl 6 rfl) ?_
  refine lv_iconst (v := 0) hx hb d7 (by decide) ?_
  refine va_lald hx hb hE.1 hP 43 2 rfl rfl gx_in0 d8 ?_
  rw [gx_t0]
  refine lv_iload hx hb d9 (lv_at hl 0 rfl) ?_
  refine lv_i2l (v := v9.toInt64) hx hb d10 rfl ?_
  refine gl_lcmp hx hb (hval h9) d11 ?_
  exact lv_if_eq (tgt := pc + 28) hx hb d12 (by omega) (fun _ => kg) (fun h8 => absurd rfl h8)
end GLT
/-- behind a case: the law goes on at its loop's end, from any world that the two sides agree in -/
def gl_N (p : Program) (l : Launch) (e : Env) (s : State) (m : MethodId) (args : Array Value) (below : List Frame) (meth : Method) (c : Code) (Q : State → Prop) (A : Nat → Prop) (H0 : Heap) (G : gh_G) (b0 h : Nat) (a d b x u f : Nat → Nat) (ja k cells slots : Nat) : Prop :=
  ∀ (ls1 : Array Slot) (H1 : Heap) (locs1 : List Loc) (o q z r t w : gh_B) (jo : Nat → Int64) (n nn : Nat), gs_W n nn o z t r → va_P G.1 vwCl (wLaw G h a d b x u f ja o q z r t w jo) H1 → va_D A (wLaw G h a d b x u f ja o q z r t w jo) → va_S A H0 H1 locs1 → lv_has ls1 9 [(4, .int (nI k)), (0, .ref b0), (1, .ref h), (2, .ref (x 0)), (3, .ref ja)] →
    W p l e room_1 s m args below meth c H1 locs1 (cells + 400) (slots + 3000) Q (F0 m 1171 ls1 [])
