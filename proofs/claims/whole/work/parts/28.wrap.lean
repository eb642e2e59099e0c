/-! the law's own fifteen methods: each calls one method of GlassHarp and answers 0, or which throw it was -/
abbrev wL (G : gh_G) (j : Nat) (f : Nat → Int64) : va_W := [(j, .inl (G.2.2.2, 1, .inr (.inl f)))]
def gx_if {α : Type} (k : Int32) (x y : α) : α := if k = 0 then x else y
theorem gx_if_p {α : Type} {k : Int32} {x y : α} (h : k = 0) : gx_if k x y = x := by unfold gx_if; rw [if_pos h]
theorem gx_if_n {α : Type} {k i : Int32} {x y : α} (h : k = i) (hi : ¬ i = 0) : gx_if k x y = y := by unfold gx_if; rw [if_neg (by rw [h]; exact hi)]
theorem gx_in0 : vp_in 0 1 := vp_in_nI (n := 0) (N := 1) (by decide) (by decide)
theorem gx_t0 : (0 : Int32).toNatClampNeg = 0 := by decide
theorem gx_ofWH {l : Launch} {y : MethodName} {ws ws' : List Cond} {rm : Room} {Pc : Array Value → State → Prop} {Qc : Array Value → State → Outcome → State → Prop} {mc ms : Nat} {free : Addr → Prop} {cc : ByteArray} {maxL : Nat} {ret : Option FieldType} {hh : List (Nat × Nat × Nat × Nat)}
    (hy : plainName y.cls = true) (hw : ws = Cond.codeWith y cc maxL ret hh :: ws')
    (body : ∀ p e s m args below meth c s₁, BodyLoose p l y (headSpec ws rm) cc maxL ret e s m args below meth c s₁ → c.maxLocals = maxL → Pc args s →
      W p l e (headSpec ws rm).room s m args below meth c s.heap [] 0 0 (MQ below Qc args s mc ms free) (entryFrame m args maxL)) : Met l y ws rm Pc Qc mc ms free := by
  refine MetFree.of_bodyS (code := cc) (maxLocals := maxL) (ret := ret) hy ?_ ?_
  · intro args s m h hn
    obtain ⟨m9, meth, c, hn9, h1, h2, h3, h4, -, h5, h6, -⟩ := Cond.codeWith_spec (atoms_spec (ws := ws) h _ (by rw [hw]; exact List.mem_cons_self))
    cases hn.symm.trans hn9
    exact ⟨meth, c, h1, h2, h3, h4, h5, h6⟩
  · intro p e s m args below meth c s₁ B hml hP _
    have hh0 : s₁.heap = s.heap := by rw [B.state]; rfl
    obtain ⟨t, a1, o, b1, b2, b3, b4⟩ := body p e s m args below meth c s₁ B hml hP s₁ hh0 (Stand.of_body B)
    exact ⟨t, o, a1, b1, b2, b3, b4⟩
section GHX
variable {p : Program} {l : Launch} {e : Env} {R : Room} {s : State} {m : MethodId} {args : Array Value} {below : List Frame} {meth : Method} {c : Code} {H : Heap} {locs : List Loc} {cells slots : Nat} {Q : State → Prop}
variable {pc : Nat} {ls : Array Slot} {rest st0 : List Value} {a : Array Value} {A0 : Nat → Prop} {H0 : Heap} {mc ms : Nat}
theorem gx_cx {U : Type} {G : gh_G} {Ck : Prop} {CE : String → Prop} {v : Int32} {ws wc wr : va_W} {w1 ws' : U → va_W} (hr : vx_Run p l e R s m args below meth c H locs cells slots mc ms (F0 m pc ls st0) rest (va_Qi (fun (r9 : Int32) (_ : U) => r9 = v ∧ Ck) (fun u t9 => va_P G.1 vwCl (w1 u) t9.heap) (va_A wc H.size) a) (vx_X (fun _ : Unit => True) (fun E9 _ t9 => CE E9 ∧ va_P G.1 vwCl wc t9.heap) (va_A wc H.size)) (va_A wc H.size)) (hP : va_P G.1 vwCl ws H) (hD : va_D A0 ws) (hS : va_S A0 H0 H locs) (hA : ∀ q, H0.size ≤ q → A0 q)
    (isC isR pm : List Nat) (hC : isC.map (fun i => ws[i]?) = wc.map some) (hR : isR.map (fun i => ws[i]?) = wr.map some) (hn : va_nd isR = true) (hnc : va_nd isC = true) (hdis : ∀ i ∈ isR, i ∉ isC) (ad ad2 : List Nat) (e1 : ∀ u, (w1 u).map (fun q => q.1) = ad) (e1' : wc.map (fun q => q.1) = ad) (hpm : ∀ u, pm.filterMap (fun i => (wr ++ w1 u)[i]?) = ws' u) (hpx : pm.filterMap (fun i => (wr ++ wc)[i]?) = ws) (e2 : ∀ u, (ws' u).map (fun q => q.1) = ad2) (e2' : ws.map (fun q => q.1) = ad2)
    (kx : ∀ (E9 : String) (ce : Cell) (q9 : Addr) (H1 : Heap) (locs1 : List Loc), CE E9 → va_P G.1 vwCl ws H1 → va_D A0 ws → va_S A0 H0 H1 locs1 → H1[q9]? = some ce → ce.vm = .none → s.vm.findClass E9 = some ce.cls → vx_W p l e R s m args below meth c H1 locs1 (cells + mc) (slots + ms) Q (F0 m pc ls rest) q9)
    (kk : ∀ (u : U) (H1 : Heap) (locs1 : List Loc), Ck → va_P G.1 vwCl (ws' u) H1 → va_D A0 (ws' u) → va_S A0 H0 H1 locs1 → W p l e R s m args below meth c H1 locs1 (cells + mc) (slots + ms) Q (F0 m (pc + 3) ls (.int v :: rest))) : W p l e R s m args below meth c H locs cells slots Q (F0 m pc ls st0) := by
  have hF := va_free (wc := wc) hD hS hA isC hC
  refine vx_calli hr hS (fun q _ h => hF q h) hF (fun q _ h => hF q h) (fun E9 ce q9 u t H1 locs1 ht hvm hw hB hz1 hk1 hS1 h7 h8 h9 => ?_) (fun r u t H1 locs1 ht hvm hw hB hz1 hk1 hS1 => ?_)
  · obtain ⟨hC9, hB⟩ := hB
    rw [ht] at hB
    obtain ⟨hP', hD'⟩ := gh_join hP hD isC isR pm hC hR hn hnc hdis hk1 hF hB ad ad2 e1' e1' hpx e2' e2'
    exact kx E9 ce q9 H1 locs1 hC9 hP' hD' hS1 h7 h8 h9
  · obtain ⟨rfl, hC9⟩ := hw
    rw [ht] at hB
    obtain ⟨hP', hD'⟩ := gh_join hP hD isC isR pm hC hR hn hnc hdis hk1 hF hB ad ad2 (e1 u) e1' (hpm u) (e2 u) e2'
    exact kk u H1 locs1 hC9 hP' hD' hS1
end GHX
set_option maxHeartbeats 4000000 in
set_option maxRecDepth 100000 in
theorem c_L_set (l : Launch) (hfl : l.stackTraces = false) (G : gh_G) (sz : Nat) (h : Nat) (a : Nat → Nat) (b : Nat → Nat) (d : Nat → Nat) (o : gh_B) (n : Nat) (y : Int32) (u : Int32) (v : Int32) (ja : Nat) (jo : Nat → Int64) (hn : o 10 0 = nI n) (hn16 : n ≤ 16) : Met l yL_set wsL_set ({ frames := 7, cells := 1, slots := 6, locals := 114 } : Room) (gx_w G [.ref h, .int y, .int u, .int v, .ref ja] ((wH h (b 5) (a 0) (d 0)) ++ (wO G a (b 5) o) ++ (wL G ja jo)) sz) (va_Qi (fun (r9 : Int32) (_ : Unit) => r9 = gc_set n y u v) (fun _ t9 => va_P G.1 vwCl ((wH h (b 5) (a 0) (d 0)) ++ (wO G a (b 5) (gx_if (gc_set n y u v) (gh_ad o n y u v) (o))) ++ (wL G ja (gx_if (gc_set n y u v) (vp_updL jo 0 (nI n).toInt64) jo))) t9.heap) (va_A ((wH h (b 5) (a 0) (d 0)) ++ (wO G a (b 5) o) ++ (wL G ja jo)) sz)) 1 6 (va_A ((wH h (b 5) (a 0) (d 0)) ++ (wO G a (b 5) o) ++ (wL G ja jo)) sz) := by
  refine gx_ofWH (cc := cL_set) (maxL := 6) (ret := some .int) (hh := [(0, 12, 15, 13), (0, 12, 19, 15)]) (by decide) rfl ?_
  intro p e s m args below meth c s₁ B hml hv
  obtain ⟨rfl, hsz, hP, hE, hD0, hV, hZ⟩ := hv
  have hx := B.exec
  have hb := B.bytes
  have hr := B.returns
  have hts := atoms_spec (ws := wsL_set) B.pre
  have hown : s.vm.findClass RL = some m.cls := findClass_of_methodNamed B.named
  have hlocks := B.notSynchronized
  have hK := hE.1
  subst hsz
  have hD := hD0.self (sz := s.heap.size)
  have htab : c.exceptionTable.toList = tableOf [(0, 12, 15, 13), (0, 12, 19, 15)] := vx_table (x := yL_set) B (hts _ List.mem_cons_self)
  generalize hAe : va_A ((wH h (b 5) (a 0) (d 0)) ++ (wO G a (b 5) o) ++ (wL G ja jo)) s.heap.size = A at hD hZ ⊢
  have hA : ∀ q : Nat, s.heap.size ≤ q → A q := fun q h => by rw [← hAe]; exact Or.inr h
  have hS : va_S A s.heap s.heap [] := va_S.rf
  have hl := lv_entry ([.ref h, .int y, .int u, .int v, .ref ja]) (n := 6) (Nat.le_of_ble_eq_true rfl)
  rw [lg_entry_eq]
  generalize (lg_sl ([.ref h, .int y, .int u, .int v, .ref ja]) ++ List.replicate (6 - (lg_sl ([.ref h, .int y, .int u, .int v, .ref ja])).length) Slot.unset).toArray = ls at hl ⊢
  have hl : lv_has ls 6 [(0, .ref h), (1, .int y), (2, .int u), (3, .int v), (4, .ref ja)] := hl
  refine lv_aload hx hb dL_set_0 (lv_at hl 4 rfl) ?_
  refine lv_iconst (v := 0) hx hb dL_set_2 (by decide) ?_
  refine lv_aload_n hx hb dL_set_3 rfl (lv_at hl 0 rfl) ?_
  refine lv_iload_n hx hb dL_set_4 rfl (lv_at hl 1 rfl) ?_
  refine lv_iload_n hx hb dL_set_5 rfl (lv_at hl 2 rfl) ?_
  refine lv_iload_n hx hb dL_set_6 rfl (lv_at hl 3 rfl) ?_
  refine gx_cx (wr := wL G ja jo) (ws' := fun _ => (wH h (b 5) (a 0) (d 0)) ++ (wO G a (b 5) (gh_ad o n y u v)) ++ (wL G ja jo)) (vx_runV (As := [.int y, .int u, .int v]) (rest := [.int 0, .ref ja]) ⟨hx, hb, hml, hown, hts⟩ (c_X2_set l hfl G s.heap.size h a b d o n y u v hn hn16) (cwV 3 hts gL_set_X2_set rfl rfl rfl ⟨rfl, hdS_X2_set⟩ ⟨Nat.le_of_ble_eq_true rfl, Nat.le_of_ble_eq_true rfl⟩) (gx_wV hE (hP.sub (ws' := (wH h (b 5) (a 0) (d 0)) ++ (wO G a (b 5) o)) [0, 1, 2, 3, 4, 5, 6, 7, 8, 9, 10] rfl) (hD.sub (ws' := (wH h (b 5) (a 0) (d 0)) ++ (wO G a (b 5) o)) [0, 1, 2, 3, 4, 5, 6, 7, 8, 9, 10] (by decide) rfl) hV ((hZ.kept hS.2.1).narrow (va_free (wc := (wH h (b 5) (a 0) (d 0)) ++ (wO G a (b 5) o)) hD hS hA [0, 1, 2, 3, 4, 5, 6, 7, 8, 9, 10] rfl)) (ci := 2) (q0 := 0) rfl rfl) rfl rfl hl.1 rfl (lv_room (Nat.le_of_ble_eq_true rfl)) dL_set_7 ⟨Nat.le_of_ble_eq_true rfl, Nat.le_of_ble_eq_true rfl⟩) hP hD hS hA [0, 1, 2, 3, 4, 5, 6, 7, 8, 9, 10] [11] [1, 2, 3, 4, 5, 6, 7, 8, 9, 10, 11, 0] rfl rfl (by decide) (by decide) (by decide) [h, a 0, a 1, a 2, a 3, a 4, a 5, a 6, a 7, a 8, a 9] [h, a 0, a 1, a 2, a 3, a 4, a 5, a 6, a 7, a 8, a 9, ja] (fun _ => rfl) rfl (fun _ => rfl) rfl (fun _ => rfl) rfl (fun E9 ce q9 H locs hC9 hP hD hS h7 h8 h9 => ?_) (fun u9 H locs hk hP hD hS => ?_)
  · skip
    rcases hC9 with ⟨rfl, hk⟩ | ⟨rfl, hk⟩
    · skip
      refine vx_catch (name := "java/lang/IllegalArgumentException") (E := gx_A) hown [] ⟨0, 12, 15, 13⟩ [⟨0, 12, 19, 15⟩] htab (fun z hz => absurd hz List.not_mem_nil) (by decide) (by decide) (hts (.classLink RL 13 "java/lang/IllegalArgumentException") (List.mem_of_getElem? (i := 1) rfl)) (va_Nw.use rfl hV.1.1) h7 h8 h9 ?_
      refine lv_astore (lv' := [(5, .ref q9), (0, .ref h), (1, .int y), (2, .int u), (3, .int v), (4, .ref ja)]) hx hb dL_set_15 hl (by decide) rfl (fun ls hl => ?_)
      refine lv_iconst (v := 1) hx hb dL_set_17 (by decide) ?_
      have hP9 : va_P G.1 vwCl ((wH h (b 5) (a 0) (d 0)) ++ (wO G a (b 5) (gx_if (gc_set n y u v) (gh_ad o n y u v) (o))) ++ (wL G ja (gx_if (gc_set n y u v) (vp_updL jo 0 (nI n).toInt64) jo))) H := by simp only [gx_if_n hk (show ¬ (1 : Int32) = 0 by decide)]; exact hP
      exact W.iret (v := 1) hx hb hr (fun t9 ht hW => ⟨⟨1, (), rfl, hk.symm, gh_hp hP9 ht⟩, hS.F ht⟩) hS.2.2 dL_set_18
    · skip
      refine vx_catch (name := "java/lang/IllegalStateException") (E := gx_S) hown [⟨0, 12, 15, 13⟩] ⟨0, 12, 19, 15⟩ [] htab (fun z hz => by
        simp only [List.mem_cons, List.not_mem_nil, or_false] at hz
        subst hz
        · exact Or.inr ⟨by decide, "java/lang/IllegalArgumentException", (hts (.classLink RL 13 "java/lang/IllegalArgumentException") (List.mem_of_getElem? (i := 1) rfl)), hV.2.2.1⟩) (by decide) (by decide) (hts (.classLink RL 15 "java/lang/IllegalStateException") (List.mem_of_getElem? (i := 2) rfl)) (va_Nw.use rfl hV.1.2.1) h7 h8 h9 ?_
      refine lv_astore (lv' := [(5, .ref q9), (0, .ref h), (1, .int y), (2, .int u), (3, .int v), (4, .ref ja)]) hx hb dL_set_19 hl (by decide) rfl (fun ls hl => ?_)
      refine lv_iconst (v := 2) hx hb dL_set_21 (by decide) ?_
      have hP9 : va_P G.1 vwCl ((wH h (b 5) (a 0) (d 0)) ++ (wO G a (b 5) (gx_if (gc_set n y u v) (gh_ad o n y u v) (o))) ++ (wL G ja (gx_if (gc_set n y u v) (vp_updL jo 0 (nI n).toInt64) jo))) H := by simp only [gx_if_n hk (show ¬ (2 : Int32) = 0 by decide)]; exact hP
      exact W.iret (v := 2) hx hb hr (fun t9 ht hW => ⟨⟨2, (), rfl, hk.symm, gh_hp hP9 ht⟩, hS.F ht⟩) hS.2.2 dL_set_22
  · skip
    refine lv_i2l (v := (nI n).toInt64) hx hb dL_set_10 rfl ?_
    refine va_last hx hb hK hP hD hS 11 2 rfl rfl gx_in0 dL_set_11 (fun H locs hP hD hS => ?_)
    rw [gx_t0] at hP hD
    refine lv_goto (tgt := 23) hx hb dL_set_12 (by decide) ?_
    refine lv_iconst (v := 0) hx hb dL_set_23 (by decide) ?_
    have hP9 : va_P G.1 vwCl ((wH h (b 5) (a 0) (d 0)) ++ (wO G a (b 5) (gx_if (gc_set n y u v) (gh_ad o n y u v) (o))) ++ (wL G ja (gx_if (gc_set n y u v) (vp_updL jo 0 (nI n).toInt64) jo))) H := by simp only [gx_if_p hk]; exact hP
    exact W.iret (v := 0) hx hb hr (fun t9 ht hW => ⟨⟨0, (), rfl, hk.symm, gh_hp hP9 ht⟩, hS.F ht⟩) hS.2.2 dL_set_24
set_option maxHeartbeats 4000000 in
set_option maxRecDepth 100000 in
theorem c_L_drop (l : Launch) (hfl : l.stackTraces = false) (G : gh_G) (sz : Nat) (h : Nat) (a : Nat → Nat) (b : Nat → Nat) (d : Nat → Nat) (o : gh_B) (n : Nat) (y : Int32) (v : Int32) (ja : Nat) (jo : Nat → Int64) (hn : o 10 0 = nI n) (hn16 : n ≤ 16) : Met l yL_drop wsL_drop ({ frames := 7, cells := 1, slots := 6, locals := 113 } : Room) (gx_w G [.ref h, .int y, .int v, .ref ja] ((wH h (b 5) (a 0) (d 0)) ++ (wO G a (b 5) o) ++ (wL G ja jo)) sz) (va_Qi (fun (r9 : Int32) (_ : Unit) => r9 = gc_drop o y v) (fun _ t9 => va_P G.1 vwCl ((wH h (b 5) (a 0) (d 0)) ++ (wO G a (b 5) (gx_if (gc_drop o y v) (gc_dp o y v) (o))) ++ (wL G ja (gx_if (gc_drop o y v) (vp_updL jo 0 (gh_tn (gc_dp o y v) y.toNatClampNeg).toInt64) jo))) t9.heap) (va_A ((wH h (b 5) (a 0) (d 0)) ++ (wO G a (b 5) o) ++ (wL G ja jo)) sz)) 1 6 (va_A ((wH h (b 5) (a 0) (d 0)) ++ (wO G a (b 5) o) ++ (wL G ja jo)) sz) := by
  refine gx_ofWH (cc := cL_drop) (maxL := 5) (ret := some .int) (hh := [(0, 10, 13, 21), (0, 10, 17, 13), (0, 10, 21, 15)]) (by decide) rfl ?_
  intro p e s m args below meth c s₁ B hml hv
  obtain ⟨rfl, hsz, hP, hE, hD0, hV, hZ⟩ := hv
  have hx := B.exec
  have hb := B.bytes
  have hr := B.returns
  have hts := atoms_spec (ws := wsL_drop) B.pre
  have hown : s.vm.findClass RL = some m.cls := findClass_of_methodNamed B.named
  have hlocks := B.notSynchronized
  have hK := hE.1
  subst hsz
  have hD := hD0.self (sz := s.heap.size)
  have htab : c.exceptionTable.toList = tableOf [(0, 10, 13, 21), (0, 10, 17, 13), (0, 10, 21, 15)] := vx_table (x := yL_drop) B (hts _ List.mem_cons_self)
  generalize hAe : va_A ((wH h (b 5) (a 0) (d 0)) ++ (wO G a (b 5) o) ++ (wL G ja jo)) s.heap.size = A at hD hZ ⊢
  have hA : ∀ q : Nat, s.heap.size ≤ q → A q := fun q h => by rw [← hAe]; exact Or.inr h
  have hS : va_S A s.heap s.heap [] := va_S.rf
  have hl := lv_entry ([.ref h, .int y, .int v, .ref ja]) (n := 5) (Nat.le_of_ble_eq_true rfl)
  rw [lg_entry_eq]
  generalize (lg_sl ([.ref h, .int y, .int v, .ref ja]) ++ List.replicate (5 - (lg_sl ([.ref h, .int y, .int v, .ref ja])).length) Slot.unset).toArray = ls at hl ⊢
  have hl : lv_has ls 5 [(0, .ref h), (1, .int y), (2, .int v), (3, .ref ja)] := hl
  refine lv_aload_n hx hb dL_drop_0 rfl (lv_at hl 3 rfl) ?_
  refine lv_iconst (v := 0) hx hb dL_drop_1 (by decide) ?_
  refine lv_aload_n hx hb dL_drop_2 rfl (lv_at hl 0 rfl) ?_
  refine lv_iload_n hx hb dL_drop_3 rfl (lv_at hl 1 rfl) ?_
  refine lv_iload_n hx hb dL_drop_4 rfl (lv_at hl 2 rfl) ?_
  refine gx_cx (wr := wL G ja jo) (ws' := fun _ => (wH h (b 5) (a 0) (d 0)) ++ (wO G a (b 5) (gc_dp o y v)) ++ (wL G ja jo)) (vx_runV (As := [.int y, .int v]) (rest := [.int 0, .ref ja]) ⟨hx, hb, hml, hown, hts⟩ (c_X2_drop l hfl G s.heap.size h a b d o n y v hn hn16) (cwV 2 hts gL_drop_X2_drop rfl rfl rfl ⟨rfl, hdS_X2_drop⟩ ⟨Nat.le_of_ble_eq_true rfl, Nat.le_of_ble_eq_true rfl⟩) (gx_wV hE (hP.sub (ws' := (wH h (b 5) (a 0) (d 0)) ++ (wO G a (b 5) o)) [0, 1, 2, 3, 4, 5, 6, 7, 8, 9, 10] rfl) (hD.sub (ws' := (wH h (b 5) (a 0) (d 0)) ++ (wO G a (b 5) o)) [0, 1, 2, 3, 4, 5, 6, 7, 8, 9, 10] (by decide) rfl) hV ((hZ.kept hS.2.1).narrow (va_free (wc := (wH h (b 5) (a 0) (d 0)) ++ (wO G a (b 5) o)) hD hS hA [0, 1, 2, 3, 4, 5, 6, 7, 8, 9, 10] rfl)) (ci := 2) (q0 := 0) rfl rfl) rfl rfl hl.1 rfl (lv_room (Nat.le_of_ble_eq_true rfl)) dL_drop_5 ⟨Nat.le_of_ble_eq_true rfl, Nat.le_of_ble_eq_true rfl⟩) hP hD hS hA [0, 1, 2, 3, 4, 5, 6, 7, 8, 9, 10] [11] [1, 2, 3, 4, 5, 6, 7, 8, 9, 10, 11, 0] rfl rfl (by decide) (by decide) (by decide) [h, a 0, a 1, a 2, a 3, a 4, a 5, a 6, a 7, a 8, a 9] [h, a 0, a 1, a 2, a 3, a 4, a 5, a 6, a 7, a 8, a 9, ja] (fun _ => rfl) rfl (fun _ => rfl) rfl (fun _ => rfl) rfl (fun E9 ce q9 H locs hC9 hP hD hS h7 h8 h9 => ?_) (fun u9 H locs hk hP hD hS => ?_)
  · skip
    rcases hC9 with ⟨rfl, hk⟩ | ⟨rfl, hk⟩ | ⟨rfl, hk⟩
    · skip
      refine vx_catch (name := "java/lang/IndexOutOfBoundsException") (E := gx_O) hown [] ⟨0, 10, 13, 21⟩ [⟨0, 10, 17, 13⟩, ⟨0, 10, 21, 15⟩] htab (fun z hz => absurd hz List.not_mem_nil) (by decide) (by decide) (hts (.classLink RL 21 "java/lang/IndexOutOfBoundsException") (List.mem_of_getElem? (i := 1) rfl)) (va_Nw.use rfl hV.1.2.2) h7 h8 h9 ?_
      refine lv_astore (lv' := [(4, .ref q9), (0, .ref h), (1, .int y), (2, .int v), (3, .ref ja)]) hx hb dL_drop_13 hl (by decide) rfl (fun ls hl => ?_)
      refine lv_iconst (v := 1) hx hb dL_drop_15 (by decide) ?_
      have hP9 : va_P G.1 vwCl ((wH h (b 5) (a 0) (d 0)) ++ (wO G a (b 5) (gx_if (gc_drop o y v) (gc_dp o y v) (o))) ++ (wL G ja (gx_if (gc_drop o y v) (vp_updL jo 0 (gh_tn (gc_dp o y v) y.toNatClampNeg).toInt64) jo))) H := by simp only [gx_if_n hk (show ¬ (1 : Int32) = 0 by decide)]; exact hP
      exact W.iret (v := 1) hx hb hr (fun t9 ht hW => ⟨⟨1, (), rfl, hk.symm, gh_hp hP9 ht⟩, hS.F ht⟩) hS.2.2 dL_drop_16
    · skip
      refine vx_catch (name := "java/lang/IllegalArgumentException") (E := gx_A) hown [⟨0, 10, 13, 21⟩] ⟨0, 10, 17, 13⟩ [⟨0, 10, 21, 15⟩] htab (fun z hz => by
        simp only [List.mem_cons, List.not_mem_nil, or_false] at hz
        subst hz
        · exact Or.inr ⟨by decide, "java/lang/IndexOutOfBoundsException", (hts (.classLink RL 21 "java/lang/IndexOutOfBoundsException") (List.mem_of_getElem? (i := 1) rfl)), hV.2.2.2.1⟩) (by decide) (by decide) (hts (.classLink RL 13 "java/lang/IllegalArgumentException") (List.mem_of_getElem? (i := 2) rfl)) (va_Nw.use rfl hV.1.1) h7 h8 h9 ?_
      refine lv_astore (lv' := [(4, .ref q9), (0, .ref h), (1, .int y), (2, .int v), (3, .ref ja)]) hx hb dL_drop_17 hl (by decide) rfl (fun ls hl => ?_)
      refine lv_iconst (v := 2) hx hb dL_drop_19 (by decide) ?_
      have hP9 : va_P G.1 vwCl ((wH h (b 5) (a 0) (d 0)) ++ (wO G a (b 5) (gx_if (gc_drop o y v) (gc_dp o y v) (o))) ++ (wL G ja (gx_if (gc_drop o y v) (vp_updL jo 0 (gh_tn (gc_dp o y v) y.toNatClampNeg).toInt64) jo))) H := by simp only [gx_if_n hk (show ¬ (2 : Int32) = 0 by decide)]; exact hP
      exact W.iret (v := 2) hx hb hr (fun t9 ht hW => ⟨⟨2, (), rfl, hk.symm, gh_hp hP9 ht⟩, hS.F ht⟩) hS.2.2 dL_drop_20
    · skip
      refine vx_catch (name := "java/lang/IllegalStateException") (E := gx_S) hown [⟨0, 10, 13, 21⟩, ⟨0, 10, 17, 13⟩] ⟨0, 10, 21, 15⟩ [] htab (fun z hz => by
        simp only [List.mem_cons, List.not_mem_nil, or_false] at hz
        rcases hz with rfl | rfl
        · exact Or.inr ⟨by decide, "java/lang/IndexOutOfBoundsException", (hts (.classLink RL 21 "java/lang/IndexOutOfBoundsException") (List.mem_of_getElem? (i := 1) rfl)), hV.2.2.2.2.1⟩
        · exact Or.inr ⟨by decide, "java/lang/IllegalArgumentException", (hts (.classLink RL 13 "java/lang/IllegalArgumentException") (List.mem_of_getElem? (i := 2) rfl)), hV.2.2.1⟩) (by decide) (by decide) (hts (.classLink RL 15 "java/lang/IllegalStateException") (List.mem_of_getElem? (i := 3) rfl)) (va_Nw.use rfl hV.1.2.1) h7 h8 h9 ?_
      refine lv_astore (lv' := [(4, .ref q9), (0, .ref h), (1, .int y), (2, .int v), (3, .ref ja)]) hx hb dL_drop_21 hl (by decide) rfl (fun ls hl => ?_)
      refine lv_iconst (v := 3) hx hb dL_drop_23 (by decide) ?_
      have hP9 : va_P G.1 vwCl ((wH h (b 5) (a 0) (d 0)) ++ (wO G a (b 5) (gx_if (gc_drop o y v) (gc_dp o y v) (o))) ++ (wL G ja (gx_if (gc_drop o y v) (vp_updL jo 0 (gh_tn (gc_dp o y v) y.toNatClampNeg).toInt64) jo))) H := by simp only [gx_if_n hk (show ¬ (3 : Int32) = 0 by decide)]; exact hP
      exact W.iret (v := 3) hx hb hr (fun t9 ht hW => ⟨⟨3, (), rfl, hk.symm, gh_hp hP9 ht⟩, hS.F ht⟩) hS.2.2 dL_drop_24
  · skip
    refine lv_i2l (v := (gh_tn (gc_dp o y v) y.toNatClampNeg).toInt64) hx hb dL_drop_8 rfl ?_
    refine va_last hx hb hK hP hD hS 11 2 rfl rfl gx_in0 dL_drop_9 (fun H locs hP hD hS => ?_)
    rw [gx_t0] at hP hD
    refine lv_goto (tgt := 25) hx hb dL_drop_10 (by decide) ?_
    refine lv_iconst (v := 0) hx hb dL_drop_25 (by decide) ?_
    have hP9 : va_P G.1 vwCl ((wH h (b 5) (a 0) (d 0)) ++ (wO G a (b 5) (gx_if (gc_drop o y v) (gc_dp o y v) (o))) ++ (wL G ja (gx_if (gc_drop o y v) (vp_updL jo 0 (gh_tn (gc_dp o y v) y.toNatClampNeg).toInt64) jo))) H := by simp only [gx_if_p hk]; exact hP
    exact W.iret (v := 0) hx hb hr (fun t9 ht hW => ⟨⟨0, (), rfl, hk.symm, gh_hp hP9 ht⟩, hS.F ht⟩) hS.2.2 dL_drop_26
set_option maxHeartbeats 4000000 in
set_option maxRecDepth 100000 in
theorem c_L_pump (l : Launch) (hfl : l.stackTraces = false) (G : gh_G) (sz : Nat) (h : Nat) (a : Nat → Nat) (b : Nat → Nat) (d : Nat → Nat) (o : gh_B) (y : Int32) (v : Int32) (ja : Nat) (jo : Nat → Int64)  : Met l yL_pump wsL_pump ({ frames := 7, cells := 1, slots := 6, locals := 113 } : Room) (gx_w G [.ref h, .int y, .int v, .ref ja] ((wH h (b 5) (a 0) (d 0)) ++ (wO G a (b 5) o) ++ (wL G ja jo)) sz) (va_Qi (fun (r9 : Int32) (_ : Unit) => r9 = gc_k3 (gh_iw y 0 3) (gh_iw v 0 9)) (fun _ t9 => va_P G.1 vwCl ((wH h (b 5) (a 0) (d 0)) ++ (wO G a (b 5) (gx_if (gc_k3 (gh_iw y 0 3) (gh_iw v 0 9)) (gh_st o 9 (upd (o 9) y.toNatClampNeg v)) (o))) ++ (wL G ja (gx_if (gc_k3 (gh_iw y 0 3) (gh_iw v 0 9)) (vp_updL jo 0 (o 9 y.toNatClampNeg).toInt64) jo))) t9.heap) (va_A ((wH h (b 5) (a 0) (d 0)) ++ (wO G a (b 5) o) ++ (wL G ja jo)) sz)) 1 6 (va_A ((wH h (b 5) (a 0) (d 0)) ++ (wO G a (b 5) o) ++ (wL G ja jo)) sz) := by
  refine gx_ofWH (cc := cL_pump) (maxL := 5) (ret := some .int) (hh := [(0, 10, 13, 21), (0, 10, 17, 13)]) (by decide) rfl ?_
  intro p e s m args below meth c s₁ B hml hv
  obtain ⟨rfl, hsz, hP, hE, hD0, hV, hZ⟩ := hv
  have hx := B.exec
  have hb := B.bytes
  have hr := B.returns
  have hts := atoms_spec (ws := wsL_pump) B.pre
  have hown : s.vm.findClass RL = some m.cls := findClass_of_methodNamed B.named
  have hlocks := B.notSynchronized
  have hK := hE.1
  subst hsz
  have hD := hD0.self (sz := s.heap.size)
  have htab : c.exceptionTable.toList = tableOf [(0, 10, 13, 21), (0, 10, 17, 13)] := vx_table (x := yL_pump) B (hts _ List.mem_cons_self)
  generalize hAe : va_A ((wH h (b 5) (a 0) (d 0)) ++ (wO G a (b 5) o) ++ (wL G ja jo)) s.heap.size = A at hD hZ ⊢
  have hA : ∀ q : Nat, s.heap.size ≤ q → A q := fun q h => by rw [← hAe]; exact Or.inr h
  have hS : va_S A s.heap s.heap [] := va_S.rf
  have hl := lv_entry ([.ref h, .int y, .int v, .ref ja]) (n := 5) (Nat.le_of_ble_eq_true rfl)
  rw [lg_entry_eq]
  generalize (lg_sl ([.ref h, .int y, .int v, .ref ja]) ++ List.replicate (5 - (lg_sl ([.ref h, .int y, .int v, .ref ja])).length) Slot.unset).toArray = ls at hl ⊢
  have hl : lv_has ls 5 [(0, .ref h), (1, .int y), (2, .int v), (3, .ref ja)] := hl
  refine lv_aload_n hx hb dL_pump_0 rfl (lv_at hl 3 rfl) ?_
  refine lv_iconst (v := 0) hx hb dL_pump_1 (by decide) ?_
  refine lv_aload_n hx hb dL_pump_2 rfl (lv_at hl 0 rfl) ?_
  refine lv_iload_n hx hb dL_pump_3 rfl (lv_at hl 1 rfl) ?_
  refine lv_iload_n hx hb dL_pump_4 rfl (lv_at hl 2 rfl) ?_
  refine gx_cx (wr := wL G ja jo) (ws' := fun _ => (wH h (b 5) (a 0) (d 0)) ++ (wO G a (b 5) (gh_st o 9 (upd (o 9) y.toNatClampNeg v))) ++ (wL G ja jo)) (vx_runV (As := [.int y, .int v]) (rest := [.int 0, .ref ja]) ⟨hx, hb, hml, hown, hts⟩ (c_X2_pump l hfl G s.heap.size h a b d o y v ) (cwV 2 hts gL_pump_X2_pump rfl rfl rfl ⟨rfl, hdS_X2_pump⟩ ⟨Nat.le_of_ble_eq_true rfl, Nat.le_of_ble_eq_true rfl⟩) (gx_wV hE (hP.sub (ws' := (wH h (b 5) (a 0) (d 0)) ++ (wO G a (b 5) o)) [0, 1, 2, 3, 4, 5, 6, 7, 8, 9, 10] rfl) (hD.sub (ws' := (wH h (b 5) (a 0) (d 0)) ++ (wO G a (b 5) o)) [0, 1, 2, 3, 4, 5, 6, 7, 8, 9, 10] (by decide) rfl) hV ((hZ.kept hS.2.1).narrow (va_free (wc := (wH h (b 5) (a 0) (d 0)) ++ (wO G a (b 5) o)) hD hS hA [0, 1, 2, 3, 4, 5, 6, 7, 8, 9, 10] rfl)) (ci := 2) (q0 := 0) rfl rfl) rfl rfl hl.1 rfl (lv_room (Nat.le_of_ble_eq_true rfl)) dL_pump_5 ⟨Nat.le_of_ble_eq_true rfl, Nat.le_of_ble_eq_true rfl⟩) hP hD hS hA [0, 1, 2, 3, 4, 5, 6, 7, 8, 9, 10] [11] [1, 2, 3, 4, 5, 6, 7, 8, 9, 10, 11, 0] rfl rfl (by decide) (by decide) (by decide) [h, a 0, a 1, a 2, a 3, a 4, a 5, a 6, a 7, a 8, a 9] [h, a 0, a 1, a 2, a 3, a 4, a 5, a 6, a 7, a 8, a 9, ja] (fun _ => rfl) rfl (fun _ => rfl) rfl (fun _ => rfl) rfl (fun E9 ce q9 H locs hC9 hP hD hS h7 h8 h9 => ?_) (fun u9 H locs hk hP hD hS => ?_)
  · skip
    rcases hC9 with ⟨rfl, hk⟩ | ⟨rfl, hk⟩
    · skip
      refine vx_catch (name := "java/lang/IndexOutOfBoundsException") (E := gx_O) hown [] ⟨0, 10, 13, 21⟩ [⟨0, 10, 17, 13⟩] htab (fun z hz => absurd hz List.not_mem_nil) (by decide) (by decide) (hts (.classLink RL 21 "java/lang/IndexOutOfBoundsException") (List.mem_of_getElem? (i := 1) rfl)) (va_Nw.use rfl hV.1.2.2) h7 h8 h9 ?_
      refine lv_astore (lv' := [(4, .ref q9), (0, .ref h), (1, .int y), (2, .int v), (3, .ref ja)]) hx hb dL_pump_13 hl (by decide) rfl (fun ls hl => ?_)
      refine lv_iconst (v := 1) hx hb dL_pump_15 (by decide) ?_
      have hP9 : va_P G.1 vwCl ((wH h (b 5) (a 0) (d 0)) ++ (wO G a (b 5) (gx_if (gc_k3 (gh_iw y 0 3) (gh_iw v 0 9)) (gh_st o 9 (upd (o 9) y.toNatClampNeg v)) (o))) ++ (wL G ja (gx_if (gc_k3 (gh_iw y 0 3) (gh_iw v 0 9)) (vp_updL jo 0 (o 9 y.toNatClampNeg).toInt64) jo))) H := by simp only [gx_if_n hk (show ¬ (1 : Int32) = 0 by decide)]; exact hP
      exact W.iret (v := 1) hx hb hr (fun t9 ht hW => ⟨⟨1, (), rfl, hk.symm, gh_hp hP9 ht⟩, hS.F ht⟩) hS.2.2 dL_pump_16
    · skip
      refine vx_catch (name := "java/lang/IllegalArgumentException") (E := gx_A) hown [⟨0, 10, 13, 21⟩] ⟨0, 10, 17, 13⟩ [] htab (fun z hz => by
        simp only [List.mem_cons, List.not_mem_nil, or_false] at hz
        subst hz
        · exact Or.inr ⟨by decide, "java/lang/IndexOutOfBoundsException", (hts (.classLink RL 21 "java/lang/IndexOutOfBoundsException") (List.mem_of_getElem? (i := 1) rfl)), hV.2.2.2.1⟩) (by decide) (by decide) (hts (.classLink RL 13 "java/lang/IllegalArgumentException") (List.mem_of_getElem? (i := 2) rfl)) (va_Nw.use rfl hV.1.1) h7 h8 h9 ?_
      refine lv_astore (lv' := [(4, .ref q9), (0, .ref h), (1, .int y), (2, .int v), (3, .ref ja)]) hx hb dL_pump_17 hl (by decide) rfl (fun ls hl => ?_)
      refine lv_iconst (v := 2) hx hb dL_pump_19 (by decide) ?_
      have hP9 : va_P G.1 vwCl ((wH h (b 5) (a 0) (d 0)) ++ (wO G a (b 5) (gx_if (gc_k3 (gh_iw y 0 3) (gh_iw v 0 9)) (gh_st o 9 (upd (o 9) y.toNatClampNeg v)) (o))) ++ (wL G ja (gx_if (gc_k3 (gh_iw y 0 3) (gh_iw v 0 9)) (vp_updL jo 0 (o 9 y.toNatClampNeg).toInt64) jo))) H := by simp only [gx_if_n hk (show ¬ (2 : Int32) = 0 by decide)]; exact hP
      exact W.iret (v := 2) hx hb hr (fun t9 ht hW => ⟨⟨2, (), rfl, hk.symm, gh_hp hP9 ht⟩, hS.F ht⟩) hS.2.2 dL_pump_20
  · skip
    refine lv_i2l (v := (o 9 y.toNatClampNeg).toInt64) hx hb dL_pump_8 rfl ?_
    refine va_last hx hb hK hP hD hS 11 2 rfl rfl gx_in0 dL_pump_9 (fun H locs hP hD hS => ?_)
    rw [gx_t0] at hP hD
    refine lv_goto (tgt := 21) hx hb dL_pump_10 (by decide) ?_
    refine lv_iconst (v := 0) hx hb dL_pump_21 (by decide) ?_
    have hP9 : va_P G.1 vwCl ((wH h (b 5) (a 0) (d 0)) ++ (wO G a (b 5) (gx_if (gc_k3 (gh_iw y 0 3) (gh_iw v 0 9)) (gh_st o 9 (upd (o 9) y.toNatClampNeg v)) (o))) ++ (wL G ja (gx_if (gc_k3 (gh_iw y 0 3) (gh_iw v 0 9)) (vp_updL jo 0 (o 9 y.toNatClampNeg).toInt64) jo))) H := by simp only [gx_if_p hk]; exact hP
    exact W.iret (v := 0) hx hb hr (fun t9 ht hW => ⟨⟨0, (), rfl, hk.symm, gh_hp hP9 ht⟩, hS.F ht⟩) hS.2.2 dL_pump_22
set_option maxHeartbeats 4000000 in
set_option maxRecDepth 100000 in
theorem c_L_glass (l : Launch) (hfl : l.stackTraces = false) (G : gh_G) (sz : Nat) (h : Nat) (a : Nat → Nat) (b : Nat → Nat) (d : Nat → Nat) (o : gh_B) (n : Nat) (y : Int32) (v : Int32) (ja : Nat) (jo : Nat → Int64) (hn : o 10 0 = nI n) (hn16 : n ≤ 16) : Met l yL_glass wsL_glass ({ frames := 7, cells := 1, slots := 6, locals := 112 } : Room) (gx_w G [.ref h, .int y, .int v, .ref ja] ((wH h (b 5) (a 0) (d 0)) ++ (wO G a (b 5) o) ++ (wL G ja jo)) sz) (va_Qi (fun (r9 : Int32) (_ : Unit) => r9 = gc_k2 (gh_rg y (o 10 0)) (gh_iw v 0 7)) (fun _ t9 => va_P G.1 vwCl ((wH h (b 5) (a 0) (d 0)) ++ (wO G a (b 5) o) ++ (wL G ja (gx_if (gc_k2 (gh_rg y (o 10 0)) (gh_iw v 0 7)) (vp_updL jo 0 (gc_gl o n y.toNatClampNeg v.toNatClampNeg).toInt64) jo))) t9.heap) (va_A ((wH h (b 5) (a 0) (d 0)) ++ (wO G a (b 5) o) ++ (wL G ja jo)) sz)) 1 6 (va_A ((wH h (b 5) (a 0) (d 0)) ++ (wO G a (b 5) o) ++ (wL G ja jo)) sz) := by
  refine gx_ofWH (cc := cL_glass) (maxL := 5) (ret := some .int) (hh := [(0, 10, 13, 21)]) (by decide) rfl ?_
  intro p e s m args below meth c s₁ B hml hv
  obtain ⟨rfl, hsz, hP, hE, hD0, hV, hZ⟩ := hv
  have hx := B.exec
  have hb := B.bytes
  have hr := B.returns
  have hts := atoms_spec (ws := wsL_glass) B.pre
  have hown : s.vm.findClass RL = some m.cls := findClass_of_methodNamed B.named
  have hlocks := B.notSynchronized
  have hK := hE.1
  subst hsz
  have hD := hD0.self (sz := s.heap.size)
  have htab : c.exceptionTable.toList = tableOf [(0, 10, 13, 21)] := vx_table (x := yL_glass) B (hts _ List.mem_cons_self)
  generalize hAe : va_A ((wH h (b 5) (a 0) (d 0)) ++ (wO G a (b 5) o) ++ (wL G ja jo)) s.heap.size = A at hD hZ ⊢
  have hA : ∀ q : Nat, s.heap.size ≤ q → A q := fun q h => by rw [← hAe]; exact Or.inr h
  have hS : va_S A s.heap s.heap [] := va_S.rf
  have hl := lv_entry ([.ref h, .int y, .int v, .ref ja]) (n := 5) (Nat.le_of_ble_eq_true rfl)
  rw [lg_entry_eq]
  generalize (lg_sl ([.ref h, .int y, .int v, .ref ja]) ++ List.replicate (5 - (lg_sl ([.ref h, .int y, .int v, .ref ja])).length) Slot.unset).toArray = ls at hl ⊢
  have hl : lv_has ls 5 [(0, .ref h), (1, .int y), (2, .int v), (3, .ref ja)] := hl
  refine lv_aload_n hx hb dL_glass_0 rfl (lv_at hl 3 rfl) ?_
  refine lv_iconst (v := 0) hx hb dL_glass_1 (by decide) ?_
  refine lv_aload_n hx hb dL_glass_2 rfl (lv_at hl 0 rfl) ?_
  refine lv_iload_n hx hb dL_glass_3 rfl (lv_at hl 1 rfl) ?_
  refine lv_iload_n hx hb dL_glass_4 rfl (lv_at hl 2 rfl) ?_
  refine gx_cx (wr := wL G ja jo) (ws' := fun _ => (wH h (b 5) (a 0) (d 0)) ++ (wO G a (b 5) o) ++ (wL G ja jo)) (vx_runV (As := [.int y, .int v]) (rest := [.int 0, .ref ja]) ⟨hx, hb, hml, hown, hts⟩ (c_X2_glass l hfl G s.heap.size h a b d o n y v hn hn16) (cwV 2 hts gL_glass_X2_glass rfl rfl rfl ⟨rfl, hdS_X2_glass⟩ ⟨Nat.le_of_ble_eq_true rfl, Nat.le_of_ble_eq_true rfl⟩) (gx_wV hE (hP.sub (ws' := (wH h (b 5) (a 0) (d 0)) ++ (wO G a (b 5) o)) [0, 1, 2, 3, 4, 5, 6, 7, 8, 9, 10] rfl) (hD.sub (ws' := (wH h (b 5) (a 0) (d 0)) ++ (wO G a (b 5) o)) [0, 1, 2, 3, 4, 5, 6, 7, 8, 9, 10] (by decide) rfl) hV ((hZ.kept hS.2.1).narrow (va_free (wc := (wH h (b 5) (a 0) (d 0)) ++ (wO G a (b 5) o)) hD hS hA [0, 1, 2, 3, 4, 5, 6, 7, 8, 9, 10] rfl)) (ci := 2) (q0 := 0) rfl rfl) rfl rfl hl.1 rfl (lv_room (Nat.le_of_ble_eq_true rfl)) dL_glass_5 ⟨Nat.le_of_ble_eq_true rfl, Nat.le_of_ble_eq_true rfl⟩) hP hD hS hA [0, 1, 2, 3, 4, 5, 6, 7, 8, 9, 10] [11] [1, 2, 3, 4, 5, 6, 7, 8, 9, 10, 11, 0] rfl rfl (by decide) (by decide) (by decide) [h, a 0, a 1, a 2, a 3, a 4, a 5, a 6, a 7, a 8, a 9] [h, a 0, a 1, a 2, a 3, a 4, a 5, a 6, a 7, a 8, a 9, ja] (fun _ => rfl) rfl (fun _ => rfl) rfl (fun _ => rfl) rfl (fun E9 ce q9 H locs hC9 hP hD hS h7 h8 h9 => ?_) (fun u9 H locs hk hP hD hS => ?_)
  · skip
    obtain ⟨rfl, hk⟩ := hC9
    · skip
      refine vx_catch (name := "java/lang/IndexOutOfBoundsException") (E := gx_O) hown [] ⟨0, 10, 13, 21⟩ [] htab (fun z hz => absurd hz List.not_mem_nil) (by decide) (by decide) (hts (.classLink RL 21 "java/lang/IndexOutOfBoundsException") (List.mem_of_getElem? (i := 1) rfl)) (va_Nw.use rfl hV.1.2.2) h7 h8 h9 ?_
      refine lv_astore (lv' := [(4, .ref q9), (0, .ref h), (1, .int y), (2, .int v), (3, .ref ja)]) hx hb dL_glass_13 hl (by decide) rfl (fun ls hl => ?_)
      refine lv_iconst (v := 1) hx hb dL_glass_15 (by decide) ?_
      have hP9 : va_P G.1 vwCl ((wH h (b 5) (a 0) (d 0)) ++ (wO G a (b 5) o) ++ (wL G ja (gx_if (gc_k2 (gh_rg y (o 10 0)) (gh_iw v 0 7)) (vp_updL jo 0 (gc_gl o n y.toNatClampNeg v.toNatClampNeg).toInt64) jo))) H := by simp only [gx_if_n hk (show ¬ (1 : Int32) = 0 by decide)]; exact hP
      exact W.iret (v := 1) hx hb hr (fun t9 ht hW => ⟨⟨1, (), rfl, hk.symm, gh_hp hP9 ht⟩, hS.F ht⟩) hS.2.2 dL_glass_16
  · skip
    refine lv_i2l (v := (gc_gl o n y.toNatClampNeg v.toNatClampNeg).toInt64) hx hb dL_glass_8 rfl ?_
    refine va_last hx hb hK hP hD hS 11 2 rfl rfl gx_in0 dL_glass_9 (fun H locs hP hD hS => ?_)
    rw [gx_t0] at hP hD
    refine lv_goto (tgt := 17) hx hb dL_glass_10 (by decide) ?_
    refine lv_iconst (v := 0) hx hb dL_glass_17 (by decide) ?_
    have hP9 : va_P G.1 vwCl ((wH h (b 5) (a 0) (d 0)) ++ (wO G a (b 5) o) ++ (wL G ja (gx_if (gc_k2 (gh_rg y (o 10 0)) (gh_iw v 0 7)) (vp_updL jo 0 (gc_gl o n y.toNatClampNeg v.toNatClampNeg).toInt64) jo))) H := by simp only [gx_if_p hk]; exact hP
    exact W.iret (v := 0) hx hb hr (fun t9 ht hW => ⟨⟨0, (), rfl, hk.symm, gh_hp hP9 ht⟩, hS.F ht⟩) hS.2.2 dL_glass_18
set_option maxHeartbeats 4000000 in
set_option maxRecDepth 100000 in
theorem c_L_row (l : Launch) (hfl : l.stackTraces = false) (G : gh_G) (sz : Nat) (h : Nat) (a : Nat → Nat) (b : Nat → Nat) (d : Nat → Nat) (o : gh_B) (n : Nat) (y : Int32) (v : Int32) (ja : Nat) (jo : Nat → Int64) (hn : o 10 0 = nI n) (hn16 : n ≤ 16) : Met l yL_row wsL_row ({ frames := 7, cells := 1, slots := 6, locals := 112 } : Room) (gx_w G [.ref h, .int y, .int v, .ref ja] ((wH h (b 5) (a 0) (d 0)) ++ (wO G a (b 5) o) ++ (wL G ja jo)) sz) (va_Qi (fun (r9 : Int32) (_ : Unit) => r9 = gc_k2 (gh_iw y 0 3) (gh_iw v 0 2)) (fun _ t9 => va_P G.1 vwCl ((wH h (b 5) (a 0) (d 0)) ++ (wO G a (b 5) o) ++ (wL G ja (gx_if (gc_k2 (gh_iw y 0 3) (gh_iw v 0 2)) (vp_updL jo 0 (gc_rw o n y v.toNatClampNeg).toInt64) jo))) t9.heap) (va_A ((wH h (b 5) (a 0) (d 0)) ++ (wO G a (b 5) o) ++ (wL G ja jo)) sz)) 1 6 (va_A ((wH h (b 5) (a 0) (d 0)) ++ (wO G a (b 5) o) ++ (wL G ja jo)) sz) := by
  refine gx_ofWH (cc := cL_row) (maxL := 5) (ret := some .int) (hh := [(0, 10, 13, 21)]) (by decide) rfl ?_
  intro p e s m args below meth c s₁ B hml hv
  obtain ⟨rfl, hsz, hP, hE, hD0, hV, hZ⟩ := hv
  have hx := B.exec
  have hb := B.bytes
  have hr := B.returns
  have hts := atoms_spec (ws := wsL_row) B.pre
  have hown : s.vm.findClass RL = some m.cls := findClass_of_methodNamed B.named
  have hlocks := B.notSynchronized
  have hK := hE.1
  subst hsz
  have hD := hD0.self (sz := s.heap.size)
  have htab : c.exceptionTable.toList = tableOf [(0, 10, 13, 21)] := vx_table (x := yL_row) B (hts _ List.mem_cons_self)
  generalize hAe : va_A ((wH h (b 5) (a 0) (d 0)) ++ (wO G a (b 5) o) ++ (wL G ja jo)) s.heap.size = A at hD hZ ⊢
  have hA : ∀ q : Nat, s.heap.size ≤ q → A q := fun q h => by rw [← hAe]; exact Or.inr h
  have hS : va_S A s.heap s.heap [] := va_S.rf
  have hl := lv_entry ([.ref h, .int y, .int v, .ref ja]) (n := 5) (Nat.le_of_ble_eq_true rfl)
  rw [lg_entry_eq]
  generalize (lg_sl ([.ref h, .int y, .int v, .ref ja]) ++ List.replicate (5 - (lg_sl ([.ref h, .int y, .int v, .ref ja])).length) Slot.unset).toArray = ls at hl ⊢
  have hl : lv_has ls 5 [(0, .ref h), (1, .int y), (2, .int v), (3, .ref ja)] := hl
  refine lv_aload_n hx hb dL_row_0 rfl (lv_at hl 3 rfl) ?_
  refine lv_iconst (v := 0) hx hb dL_row_1 (by decide) ?_
  refine lv_aload_n hx hb dL_row_2 rfl (lv_at hl 0 rfl) ?_
  refine lv_iload_n hx hb dL_row_3 rfl (lv_at hl 1 rfl) ?_
  refine lv_iload_n hx hb dL_row_4 rfl (lv_at hl 2 rfl) ?_
  refine gx_cx (wr := wL G ja jo) (ws' := fun _ => (wH h (b 5) (a 0) (d 0)) ++ (wO G a (b 5) o) ++ (wL G ja jo)) (vx_runV (As := [.int y, .int v]) (rest := [.int 0, .ref ja]) ⟨hx, hb, hml, hown, hts⟩ (c_X2_row l hfl G s.heap.size h a b d o n y v hn hn16) (cwV 2 hts gL_row_X2_row rfl rfl rfl ⟨rfl, hdS_X2_row⟩ ⟨Nat.le_of_ble_eq_true rfl, Nat.le_of_ble_eq_true rfl⟩) (gx_wV hE (hP.sub (ws' := (wH h (b 5) (a 0) (d 0)) ++ (wO G a (b 5) o)) [0, 1, 2, 3, 4, 5, 6, 7, 8, 9, 10] rfl) (hD.sub (ws' := (wH h (b 5) (a 0) (d 0)) ++ (wO G a (b 5) o)) [0, 1, 2, 3, 4, 5, 6, 7, 8, 9, 10] (by decide) rfl) hV ((hZ.kept hS.2.1).narrow (va_free (wc := (wH h (b 5) (a 0) (d 0)) ++ (wO G a (b 5) o)) hD hS hA [0, 1, 2, 3, 4, 5, 6, 7, 8, 9, 10] rfl)) (ci := 2) (q0 := 0) rfl rfl) rfl rfl hl.1 rfl (lv_room (Nat.le_of_ble_eq_true rfl)) dL_row_5 ⟨Nat.le_of_ble_eq_true rfl, Nat.le_of_ble_eq_true rfl⟩) hP hD hS hA [0, 1, 2, 3, 4, 5, 6, 7, 8, 9, 10] [11] [1, 2, 3, 4, 5, 6, 7, 8, 9, 10, 11, 0] rfl rfl (by decide) (by decide) (by decide) [h, a 0, a 1, a 2, a 3, a 4, a 5, a 6, a 7, a 8, a 9] [h, a 0, a 1, a 2, a 3, a 4, a 5, a 6, a 7, a 8, a 9, ja] (fun _ => rfl) rfl (fun _ => rfl) rfl (fun _ => rfl) rfl (fun E9 ce q9 H locs hC9 hP hD hS h7 h8 h9 => ?_) (fun u9 H locs hk hP hD hS => ?_)
  · skip
    obtain ⟨rfl, hk⟩ := hC9
    · skip
      refine vx_catch (name := "java/lang/IndexOutOfBoundsException") (E := gx_O) hown [] ⟨0, 10, 13, 21⟩ [] htab (fun z hz => absurd hz List.not_mem_nil) (by decide) (by decide) (hts (.classLink RL 21 "java/lang/IndexOutOfBoundsException") (List.mem_of_getElem? (i := 1) rfl)) (va_Nw.use rfl hV.1.2.2) h7 h8 h9 ?_
      refine lv_astore (lv' := [(4, .ref q9), (0, .ref h), (1, .int y), (2, .int v), (3, .ref ja)]) hx hb dL_row_13 hl (by decide) rfl (fun ls hl => ?_)
      refine lv_iconst (v := 1) hx hb dL_row_15 (by decide) ?_
      have hP9 : va_P G.1 vwCl ((wH h (b 5) (a 0) (d 0)) ++ (wO G a (b 5) o) ++ (wL G ja (gx_if (gc_k2 (gh_iw y 0 3) (gh_iw v 0 2)) (vp_updL jo 0 (gc_rw o n y v.toNatClampNeg).toInt64) jo))) H := by simp only [gx_if_n hk (show ¬ (1 : Int32) = 0 by decide)]; exact hP
      exact W.iret (v := 1) hx hb hr (fun t9 ht hW => ⟨⟨1, (), rfl, hk.symm, gh_hp hP9 ht⟩, hS.F ht⟩) hS.2.2 dL_row_16
  · skip
    refine lv_i2l (v := (gc_rw o n y v.toNatClampNeg).toInt64) hx hb dL_row_8 rfl ?_
    refine va_last hx hb hK hP hD hS 11 2 rfl rfl gx_in0 dL_row_9 (fun H locs hP hD hS => ?_)
    rw [gx_t0] at hP hD
    refine lv_goto (tgt := 17) hx hb dL_row_10 (by decide) ?_
    refine lv_iconst (v := 0) hx hb dL_row_17 (by decide) ?_
    have hP9 : va_P G.1 vwCl ((wH h (b 5) (a 0) (d 0)) ++ (wO G a (b 5) o) ++ (wL G ja (gx_if (gc_k2 (gh_iw y 0 3) (gh_iw v 0 2)) (vp_updL jo 0 (gc_rw o n y v.toNatClampNeg).toInt64) jo))) H := by simp only [gx_if_p hk]; exact hP
    exact W.iret (v := 0) hx hb hr (fun t9 ht hW => ⟨⟨0, (), rfl, hk.symm, gh_hp hP9 ht⟩, hS.F ht⟩) hS.2.2 dL_row_18
set_option maxHeartbeats 4000000 in
set_option maxRecDepth 100000 in
theorem c_L_setLength (l : Launch) (hfl : l.stackTraces = false) (G : gh_G) (sz : Nat) (h : Nat) (a : Nat → Nat) (b : Nat → Nat) (d : Nat → Nat) (z : gh_B) (y : Int32) (ja : Nat) (jo : Nat → Int64)  : Met l yL_setLength wsL_setLength ({ frames := 7, cells := 1, slots := 6, locals := 112 } : Room) (gx_w G [.ref h, .int y, .ref ja] ((wH h (b 5) (a 0) (d 0)) ++ (wS G b z) ++ (wL G ja jo)) sz) (va_Qi (fun (r9 : Int32) (_ : Unit) => r9 = gc_k1 (gh_iw y 1 64)) (fun _ t9 => va_P G.1 vwCl ((wH h (b 5) (a 0) (d 0)) ++ (wS G b (gx_if (gc_k1 (gh_iw y 1 64)) (gh_st z 4 (fun _ => y)) (z))) ++ (wL G ja (gx_if (gc_k1 (gh_iw y 1 64)) (vp_updL jo 0 (z 4 0).toInt64) jo))) t9.heap) (va_A ((wH h (b 5) (a 0) (d 0)) ++ (wS G b z) ++ (wL G ja jo)) sz)) 1 6 (va_A ((wH h (b 5) (a 0) (d 0)) ++ (wS G b z) ++ (wL G ja jo)) sz) := by
  refine gx_ofWH (cc := cL_setLength) (maxL := 4) (ret := some .int) (hh := [(0, 9, 12, 13)]) (by decide) rfl ?_
  intro p e s m args below meth c s₁ B hml hv
  obtain ⟨rfl, hsz, hP, hE, hD0, hV, hZ⟩ := hv
  have hx := B.exec
  have hb := B.bytes
  have hr := B.returns
  have hts := atoms_spec (ws := wsL_setLength) B.pre
  have hown : s.vm.findClass RL = some m.cls := findClass_of_methodNamed B.named
  have hlocks := B.notSynchronized
  have hK := hE.1
  subst hsz
  have hD := hD0.self (sz := s.heap.size)
  have htab : c.exceptionTable.toList = tableOf [(0, 9, 12, 13)] := vx_table (x := yL_setLength) B (hts _ List.mem_cons_self)
  generalize hAe : va_A ((wH h (b 5) (a 0) (d 0)) ++ (wS G b z) ++ (wL G ja jo)) s.heap.size = A at hD hZ ⊢
  have hA : ∀ q : Nat, s.heap.size ≤ q → A q := fun q h => by rw [← hAe]; exact Or.inr h
  have hS : va_S A s.heap s.heap [] := va_S.rf
  have hl := lv_entry ([.ref h, .int y, .ref ja]) (n := 4) (Nat.le_of_ble_eq_true rfl)
  rw [lg_entry_eq]
  generalize (lg_sl ([.ref h, .int y, .ref ja]) ++ List.replicate (4 - (lg_sl ([.ref h, .int y, .ref ja])).length) Slot.unset).toArray = ls at hl ⊢
  have hl : lv_has ls 4 [(0, .ref h), (1, .int y), (2, .ref ja)] := hl
  refine lv_aload_n hx hb dL_setLength_0 rfl (lv_at hl 2 rfl) ?_
  refine lv_iconst (v := 0) hx hb dL_setLength_1 (by decide) ?_
  refine lv_aload_n hx hb dL_setLength_2 rfl (lv_at hl 0 rfl) ?_
  refine lv_iload_n hx hb dL_setLength_3 rfl (lv_at hl 1 rfl) ?_
  refine gx_cx (wr := wL G ja jo) (ws' := fun _ => (wH h (b 5) (a 0) (d 0)) ++ (wS G b (gh_st z 4 (fun _ => y))) ++ (wL G ja jo)) (vx_runV (As := [.int y]) (rest := [.int 0, .ref ja]) ⟨hx, hb, hml, hown, hts⟩ (c_X2_setLength l hfl G s.heap.size h a b d z y ) (cwV 1 hts gL_setLength_X2_setLength rfl rfl rfl ⟨rfl, hdS_X2_setLength⟩ ⟨Nat.le_of_ble_eq_true rfl, Nat.le_of_ble_eq_true rfl⟩) (gx_wV hE (hP.sub (ws' := (wH h (b 5) (a 0) (d 0)) ++ (wS G b z)) [0, 1, 2, 3, 4] rfl) (hD.sub (ws' := (wH h (b 5) (a 0) (d 0)) ++ (wS G b z)) [0, 1, 2, 3, 4] (by decide) rfl) hV ((hZ.kept hS.2.1).narrow (va_free (wc := (wH h (b 5) (a 0) (d 0)) ++ (wS G b z)) hD hS hA [0, 1, 2, 3, 4] rfl)) (ci := 2) (q0 := 0) rfl rfl) rfl rfl hl.1 rfl (lv_room (Nat.le_of_ble_eq_true rfl)) dL_setLength_4 ⟨Nat.le_of_ble_eq_true rfl, Nat.le_of_ble_eq_true rfl⟩) hP hD hS hA [0, 1, 2, 3, 4] [5] [1, 2, 3, 4, 5, 0] rfl rfl (by decide) (by decide) (by decide) [h, b 5, b 0, b 1, b 2] [h, b 5, b 0, b 1, b 2, ja] (fun _ => rfl) rfl (fun _ => rfl) rfl (fun _ => rfl) rfl (fun E9 ce q9 H locs hC9 hP hD hS h7 h8 h9 => ?_) (fun u9 H locs hk hP hD hS => ?_)
  · skip
    obtain ⟨rfl, hk⟩ := hC9
    · skip
      refine vx_catch (name := "java/lang/IllegalArgumentException") (E := gx_A) hown [] ⟨0, 9, 12, 13⟩ [] htab (fun z hz => absurd hz List.not_mem_nil) (by decide) (by decide) (hts (.classLink RL 13 "java/lang/IllegalArgumentException") (List.mem_of_getElem? (i := 1) rfl)) (va_Nw.use rfl hV.1.1) h7 h8 h9 ?_
      refine lv_astore_n (lv' := [(3, .ref q9), (0, .ref h), (1, .int y), (2, .ref ja)]) hx hb dL_setLength_12 rfl hl (by decide) rfl (fun ls hl => ?_)
      refine lv_iconst (v := 1) hx hb dL_setLength_13 (by decide) ?_
      have hP9 : va_P G.1 vwCl ((wH h (b 5) (a 0) (d 0)) ++ (wS G b (gx_if (gc_k1 (gh_iw y 1 64)) (gh_st z 4 (fun _ => y)) (z))) ++ (wL G ja (gx_if (gc_k1 (gh_iw y 1 64)) (vp_updL jo 0 (z 4 0).toInt64) jo))) H := by simp only [gx_if_n hk (show ¬ (1 : Int32) = 0 by decide)]; exact hP
      exact W.iret (v := 1) hx hb hr (fun t9 ht hW => ⟨⟨1, (), rfl, hk.symm, gh_hp hP9 ht⟩, hS.F ht⟩) hS.2.2 dL_setLength_14
  · skip
    refine lv_i2l (v := (z 4 0).toInt64) hx hb dL_setLength_7 rfl ?_
    refine va_last hx hb hK hP hD hS 5 2 rfl rfl gx_in0 dL_setLength_8 (fun H locs hP hD hS => ?_)
    rw [gx_t0] at hP hD
    refine lv_goto (tgt := 15) hx hb dL_setLength_9 (by decide) ?_
    refine lv_iconst (v := 0) hx hb dL_setLength_15 (by decide) ?_
    have hP9 : va_P G.1 vwCl ((wH h (b 5) (a 0) (d 0)) ++ (wS G b (gx_if (gc_k1 (gh_iw y 1 64)) (gh_st z 4 (fun _ => y)) (z))) ++ (wL G ja (gx_if (gc_k1 (gh_iw y 1 64)) (vp_updL jo 0 (z 4 0).toInt64) jo))) H := by simp only [gx_if_p hk]; exact hP
    exact W.iret (v := 0) hx hb hr (fun t9 ht hW => ⟨⟨0, (), rfl, hk.symm, gh_hp hP9 ht⟩, hS.F ht⟩) hS.2.2 dL_setLength_16
set_option maxHeartbeats 4000000 in
set_option maxRecDepth 100000 in
theorem c_L_note (l : Launch) (hfl : l.stackTraces = false) (G : gh_G) (sz : Nat) (h : Nat) (a : Nat → Nat) (b : Nat → Nat) (d : Nat → Nat) (z : gh_B) (nn : Nat) (y : Int32) (u : Int32) (v : Int32) (ja : Nat) (jo : Nat → Int64) (hz : z 3 0 = nI nn) (hz32 : nn ≤ 32) : Met l yL_note wsL_note ({ frames := 7, cells := 1, slots := 6, locals := 113 } : Room) (gx_w G [.ref h, .int y, .int u, .int v, .ref ja] ((wH h (b 5) (a 0) (d 0)) ++ (wS G b z) ++ (wL G ja jo)) sz) (va_Qi (fun (r9 : Int32) (_ : Unit) => r9 = gc_note nn y u v) (fun _ t9 => va_P G.1 vwCl ((wH h (b 5) (a 0) (d 0)) ++ (wS G b (gx_if (gc_note nn y u v) (gh_wr z nn y u v) (z))) ++ (wL G ja (gx_if (gc_note nn y u v) (vp_updL jo 0 (nI (nn + 1)).toInt64) jo))) t9.heap) (va_A ((wH h (b 5) (a 0) (d 0)) ++ (wS G b z) ++ (wL G ja jo)) sz)) 1 6 (va_A ((wH h (b 5) (a 0) (d 0)) ++ (wS G b z) ++ (wL G ja jo)) sz) := by
  refine gx_ofWH (cc := cL_note) (maxL := 6) (ret := some .int) (hh := [(0, 12, 15, 13), (0, 12, 19, 15)]) (by decide) rfl ?_
  intro p e s m args below meth c s₁ B hml hv
  obtain ⟨rfl, hsz, hP, hE, hD0, hV, hZ⟩ := hv
  have hx := B.exec
  have hb := B.bytes
  have hr := B.returns
  have hts := atoms_spec (ws := wsL_note) B.pre
  have hown : s.vm.findClass RL = some m.cls := findClass_of_methodNamed B.named
  have hlocks := B.notSynchronized
  have hK := hE.1
  subst hsz
  have hD := hD0.self (sz := s.heap.size)
  have htab : c.exceptionTable.toList = tableOf [(0, 12, 15, 13), (0, 12, 19, 15)] := vx_table (x := yL_note) B (hts _ List.mem_cons_self)
  generalize hAe : va_A ((wH h (b 5) (a 0) (d 0)) ++ (wS G b z) ++ (wL G ja jo)) s.heap.size = A at hD hZ ⊢
  have hA : ∀ q : Nat, s.heap.size ≤ q → A q := fun q h => by rw [← hAe]; exact Or.inr h
  have hS : va_S A s.heap s.heap [] := va_S.rf
  have hl := lv_entry ([.ref h, .int y, .int u, .int v, .ref ja]) (n := 6) (Nat.le_of_ble_eq_true rfl)
  rw [lg_entry_eq]
  generalize (lg_sl ([.ref h, .int y, .int u, .int v, .ref ja]) ++ List.replicate (6 - (lg_sl ([.ref h, .int y, .int u, .int v, .ref ja])).length) Slot.unset).toArray = ls at hl ⊢
  have hl : lv_has ls 6 [(0, .ref h), (1, .int y), (2, .int u), (3, .int v), (4, .ref ja)] := hl
  refine lv_aload hx hb dL_note_0 (lv_at hl 4 rfl) ?_
  refine lv_iconst (v := 0) hx hb dL_note_2 (by decide) ?_
  refine lv_aload_n hx hb dL_note_3 rfl (lv_at hl 0 rfl) ?_
  refine lv_iload_n hx hb dL_note_4 rfl (lv_at hl 1 rfl) ?_
  refine lv_iload_n hx hb dL_note_5 rfl (lv_at hl 2 rfl) ?_
  refine lv_iload_n hx hb dL_note_6 rfl (lv_at hl 3 rfl) ?_
  refine gx_cx (wr := wL G ja jo) (ws' := fun _ => (wH h (b 5) (a 0) (d 0)) ++ (wS G b (gh_wr z nn y u v)) ++ (wL G ja jo)) (vx_runV (As := [.int y, .int u, .int v]) (rest := [.int 0, .ref ja]) ⟨hx, hb, hml, hown, hts⟩ (c_X2_note l hfl G s.heap.size h a b d z nn y u v hz hz32) (cwV 3 hts gL_note_X2_note rfl rfl rfl ⟨rfl, hdS_X2_note⟩ ⟨Nat.le_of_ble_eq_true rfl, Nat.le_of_ble_eq_true rfl⟩) (gx_wV hE (hP.sub (ws' := (wH h (b 5) (a 0) (d 0)) ++ (wS G b z)) [0, 1, 2, 3, 4] rfl) (hD.sub (ws' := (wH h (b 5) (a 0) (d 0)) ++ (wS G b z)) [0, 1, 2, 3, 4] (by decide) rfl) hV ((hZ.kept hS.2.1).narrow (va_free (wc := (wH h (b 5) (a 0) (d 0)) ++ (wS G b z)) hD hS hA [0, 1, 2, 3, 4] rfl)) (ci := 2) (q0 := 0) rfl rfl) rfl rfl hl.1 rfl (lv_room (Nat.le_of_ble_eq_true rfl)) dL_note_7 ⟨Nat.le_of_ble_eq_true rfl, Nat.le_of_ble_eq_true rfl⟩) hP hD hS hA [0, 1, 2, 3, 4] [5] [1, 2, 3, 4, 5, 0] rfl rfl (by decide) (by decide) (by decide) [h, b 5, b 0, b 1, b 2] [h, b 5, b 0, b 1, b 2, ja] (fun _ => rfl) rfl (fun _ => rfl) rfl (fun _ => rfl) rfl (fun E9 ce q9 H locs hC9 hP hD hS h7 h8 h9 => ?_) (fun u9 H locs hk hP hD hS => ?_)
  · skip
    rcases hC9 with ⟨rfl, hk⟩ | ⟨rfl, hk⟩
    · skip
      refine vx_catch (name := "java/lang/IllegalArgumentException") (E := gx_A) hown [] ⟨0, 12, 15, 13⟩ [⟨0, 12, 19, 15⟩] htab (fun z hz => absurd hz List.not_mem_nil) (by decide) (by decide) (hts (.classLink RL 13 "java/lang/IllegalArgumentException") (List.mem_of_getElem? (i := 1) rfl)) (va_Nw.use rfl hV.1.1) h7 h8 h9 ?_
      refine lv_astore (lv' := [(5, .ref q9), (0, .ref h), (1, .int y), (2, .int u), (3, .int v), (4, .ref ja)]) hx hb dL_note_15 hl (by decide) rfl (fun ls hl => ?_)
      refine lv_iconst (v := 1) hx hb dL_note_17 (by decide) ?_
      have hP9 : va_P G.1 vwCl ((wH h (b 5) (a 0) (d 0)) ++ (wS G b (gx_if (gc_note nn y u v) (gh_wr z nn y u v) (z))) ++ (wL G ja (gx_if (gc_note nn y u v) (vp_updL jo 0 (nI (nn + 1)).toInt64) jo))) H := by simp only [gx_if_n hk (show ¬ (1 : Int32) = 0 by decide)]; exact hP
      exact W.iret (v := 1) hx hb hr (fun t9 ht hW => ⟨⟨1, (), rfl, hk.symm, gh_hp hP9 ht⟩, hS.F ht⟩) hS.2.2 dL_note_18
    · skip
      refine vx_catch (name := "java/lang/IllegalStateException") (E := gx_S) hown [⟨0, 12, 15, 13⟩] ⟨0, 12, 19, 15⟩ [] htab (fun z hz => by
        simp only [List.mem_cons, List.not_mem_nil, or_false] at hz
        subst hz
        · exact Or.inr ⟨by decide, "java/lang/IllegalArgumentException", (hts (.classLink RL 13 "java/lang/IllegalArgumentException") (List.mem_of_getElem? (i := 1) rfl)), hV.2.2.1⟩) (by decide) (by decide) (hts (.classLink RL 15 "java/lang/IllegalStateException") (List.mem_of_getElem? (i := 2) rfl)) (va_Nw.use rfl hV.1.2.1) h7 h8 h9 ?_
      refine lv_astore (lv' := [(5, .ref q9), (0, .ref h), (1, .int y), (2, .int u), (3, .int v), (4, .ref ja)]) hx hb dL_note_19 hl (by decide) rfl (fun ls hl => ?_)
      refine lv_iconst (v := 2) hx hb dL_note_21 (by decide) ?_
      have hP9 : va_P G.1 vwCl ((wH h (b 5) (a 0) (d 0)) ++ (wS G b (gx_if (gc_note nn y u v) (gh_wr z nn y u v) (z))) ++ (wL G ja (gx_if (gc_note nn y u v) (vp_updL jo 0 (nI (nn + 1)).toInt64) jo))) H := by simp only [gx_if_n hk (show ¬ (2 : Int32) = 0 by decide)]; exact hP
      exact W.iret (v := 2) hx hb hr (fun t9 ht hW => ⟨⟨2, (), rfl, hk.symm, gh_hp hP9 ht⟩, hS.F ht⟩) hS.2.2 dL_note_22
  · skip
    refine lv_i2l (v := (nI (nn + 1)).toInt64) hx hb dL_note_10 rfl ?_
    refine va_last hx hb hK hP hD hS 5 2 rfl rfl gx_in0 dL_note_11 (fun H locs hP hD hS => ?_)
    rw [gx_t0] at hP hD
    refine lv_goto (tgt := 23) hx hb dL_note_12 (by decide) ?_
    refine lv_iconst (v := 0) hx hb dL_note_23 (by decide) ?_
    have hP9 : va_P G.1 vwCl ((wH h (b 5) (a 0) (d 0)) ++ (wS G b (gx_if (gc_note nn y u v) (gh_wr z nn y u v) (z))) ++ (wL G ja (gx_if (gc_note nn y u v) (vp_updL jo 0 (nI (nn + 1)).toInt64) jo))) H := by simp only [gx_if_p hk]; exact hP
    exact W.iret (v := 0) hx hb hr (fun t9 ht hW => ⟨⟨0, (), rfl, hk.symm, gh_hp hP9 ht⟩, hS.F ht⟩) hS.2.2 dL_note_24
set_option maxHeartbeats 4000000 in
set_option maxRecDepth 100000 in
theorem c_L_strike (l : Launch) (hfl : l.stackTraces = false) (G : gh_G) (sz : Nat) (h : Nat) (a : Nat → Nat) (b : Nat → Nat) (d : Nat → Nat) (z : gh_B) (nn : Nat) (y : Int32) (ja : Nat) (jo : Nat → Int64) (hz : z 3 0 = nI nn) (hz32 : nn ≤ 32) : Met l yL_strike wsL_strike ({ frames := 7, cells := 1, slots := 6, locals := 112 } : Room) (gx_w G [.ref h, .int y, .ref ja] ((wH h (b 5) (a 0) (d 0)) ++ (wS G b z) ++ (wL G ja jo)) sz) (va_Qi (fun (r9 : Int32) (_ : Unit) => r9 = gc_k1 (gh_rg y (z 3 0))) (fun _ t9 => va_P G.1 vwCl ((wH h (b 5) (a 0) (d 0)) ++ (wS G b (gx_if (gc_k1 (gh_rg y (z 3 0))) (gh_st (gh_sh z y.toNatClampNeg (nn - 1)) 3 (fun _ => nI (nn - 1))) (z))) ++ (wL G ja (gx_if (gc_k1 (gh_rg y (z 3 0))) (vp_updL jo 0 (z 1 y.toNatClampNeg).toInt64) jo))) t9.heap) (va_A ((wH h (b 5) (a 0) (d 0)) ++ (wS G b z) ++ (wL G ja jo)) sz)) 1 6 (va_A ((wH h (b 5) (a 0) (d 0)) ++ (wS G b z) ++ (wL G ja jo)) sz) := by
  refine gx_ofWH (cc := cL_strike) (maxL := 4) (ret := some .int) (hh := [(0, 9, 12, 21)]) (by decide) rfl ?_
  intro p e s m args below meth c s₁ B hml hv
  obtain ⟨rfl, hsz, hP, hE, hD0, hV, hZ⟩ := hv
  have hx := B.exec
  have hb := B.bytes
  have hr := B.returns
  have hts := atoms_spec (ws := wsL_strike) B.pre
  have hown : s.vm.findClass RL = some m.cls := findClass_of_methodNamed B.named
  have hlocks := B.notSynchronized
  have hK := hE.1
  subst hsz
  have hD := hD0.self (sz := s.heap.size)
  have htab : c.exceptionTable.toList = tableOf [(0, 9, 12, 21)] := vx_table (x := yL_strike) B (hts _ List.mem_cons_self)
  generalize hAe : va_A ((wH h (b 5) (a 0) (d 0)) ++ (wS G b z) ++ (wL G ja jo)) s.heap.size = A at hD hZ ⊢
  have hA : ∀ q : Nat, s.heap.size ≤ q → A q := fun q h => by rw [← hAe]; exact Or.inr h
  have hS : va_S A s.heap s.heap [] := va_S.rf
  have hl := lv_entry ([.ref h, .int y, .ref ja]) (n := 4) (Nat.le_of_ble_eq_true rfl)
  rw [lg_entry_eq]
  generalize (lg_sl ([.ref h, .int y, .ref ja]) ++ List.replicate (4 - (lg_sl ([.ref h, .int y, .ref ja])).length) Slot.unset).toArray = ls at hl ⊢
  have hl : lv_has ls 4 [(0, .ref h), (1, .int y), (2, .ref ja)] := hl
  refine lv_aload_n hx hb dL_strike_0 rfl (lv_at hl 2 rfl) ?_
  refine lv_iconst (v := 0) hx hb dL_strike_1 (by decide) ?_
  refine lv_aload_n hx hb dL_strike_2 rfl (lv_at hl 0 rfl) ?_
  refine lv_iload_n hx hb dL_strike_3 rfl (lv_at hl 1 rfl) ?_
  refine gx_cx (wr := wL G ja jo) (ws' := fun _ => (wH h (b 5) (a 0) (d 0)) ++ (wS G b (gh_st (gh_sh z y.toNatClampNeg (nn - 1)) 3 (fun _ => nI (nn - 1)))) ++ (wL G ja jo)) (vx_runV (As := [.int y]) (rest := [.int 0, .ref ja]) ⟨hx, hb, hml, hown, hts⟩ (c_X2_strike l hfl G s.heap.size h a b d z nn y hz hz32) (cwV 1 hts gL_strike_X2_strike rfl rfl rfl ⟨rfl, hdS_X2_strike⟩ ⟨Nat.le_of_ble_eq_true rfl, Nat.le_of_ble_eq_true rfl⟩) (gx_wV hE (hP.sub (ws' := (wH h (b 5) (a 0) (d 0)) ++ (wS G b z)) [0, 1, 2, 3, 4] rfl) (hD.sub (ws' := (wH h (b 5) (a 0) (d 0)) ++ (wS G b z)) [0, 1, 2, 3, 4] (by decide) rfl) hV ((hZ.kept hS.2.1).narrow (va_free (wc := (wH h (b 5) (a 0) (d 0)) ++ (wS G b z)) hD hS hA [0, 1, 2, 3, 4] rfl)) (ci := 2) (q0 := 0) rfl rfl) rfl rfl hl.1 rfl (lv_room (Nat.le_of_ble_eq_true rfl)) dL_strike_4 ⟨Nat.le_of_ble_eq_true rfl, Nat.le_of_ble_eq_true rfl⟩) hP hD hS hA [0, 1, 2, 3, 4] [5] [1, 2, 3, 4, 5, 0] rfl rfl (by decide) (by decide) (by decide) [h, b 5, b 0, b 1, b 2] [h, b 5, b 0, b 1, b 2, ja] (fun _ => rfl) rfl (fun _ => rfl) rfl (fun _ => rfl) rfl (fun E9 ce q9 H locs hC9 hP hD hS h7 h8 h9 => ?_) (fun u9 H locs hk hP hD hS => ?_)
  · skip
    obtain ⟨rfl, hk⟩ := hC9
    · skip
      refine vx_catch (name := "java/lang/IndexOutOfBoundsException") (E := gx_O) hown [] ⟨0, 9, 12, 21⟩ [] htab (fun z hz => absurd hz List.not_mem_nil) (by decide) (by decide) (hts (.classLink RL 21 "java/lang/IndexOutOfBoundsException") (List.mem_of_getElem? (i := 1) rfl)) (va_Nw.use rfl hV.1.2.2) h7 h8 h9 ?_
      refine lv_astore_n (lv' := [(3, .ref q9), (0, .ref h), (1, .int y), (2, .ref ja)]) hx hb dL_strike_12 rfl hl (by decide) rfl (fun ls hl => ?_)
      refine lv_iconst (v := 1) hx hb dL_strike_13 (by decide) ?_
      have hP9 : va_P G.1 vwCl ((wH h (b 5) (a 0) (d 0)) ++ (wS G b (gx_if (gc_k1 (gh_rg y (z 3 0))) (gh_st (gh_sh z y.toNatClampNeg (nn - 1)) 3 (fun _ => nI (nn - 1))) (z))) ++ (wL G ja (gx_if (gc_k1 (gh_rg y (z 3 0))) (vp_updL jo 0 (z 1 y.toNatClampNeg).toInt64) jo))) H := by simp only [gx_if_n hk (show ¬ (1 : Int32) = 0 by decide)]; exact hP
      exact W.iret (v := 1) hx hb hr (fun t9 ht hW => ⟨⟨1, (), rfl, hk.symm, gh_hp hP9 ht⟩, hS.F ht⟩) hS.2.2 dL_strike_14
  · skip
    refine lv_i2l (v := (z 1 y.toNatClampNeg).toInt64) hx hb dL_strike_7 rfl ?_
    refine va_last hx hb hK hP hD hS 5 2 rfl rfl gx_in0 dL_strike_8 (fun H locs hP hD hS => ?_)
    rw [gx_t0] at hP hD
    refine lv_goto (tgt := 15) hx hb dL_strike_9 (by decide) ?_
    refine lv_iconst (v := 0) hx hb dL_strike_15 (by decide) ?_
    have hP9 : va_P G.1 vwCl ((wH h (b 5) (a 0) (d 0)) ++ (wS G b (gx_if (gc_k1 (gh_rg y (z 3 0))) (gh_st (gh_sh z y.toNatClampNeg (nn - 1)) 3 (fun _ => nI (nn - 1))) (z))) ++ (wL G ja (gx_if (gc_k1 (gh_rg y (z 3 0))) (vp_updL jo 0 (z 1 y.toNatClampNeg).toInt64) jo))) H := by simp only [gx_if_p hk]; exact hP
    exact W.iret (v := 0) hx hb hr (fun t9 ht hW => ⟨⟨0, (), rfl, hk.symm, gh_hp hP9 ht⟩, hS.F ht⟩) hS.2.2 dL_strike_16
set_option maxHeartbeats 4000000 in
set_option maxRecDepth 100000 in
theorem c_L_written (l : Launch) (hfl : l.stackTraces = false) (G : gh_G) (sz : Nat) (h : Nat) (a : Nat → Nat) (b : Nat → Nat) (d : Nat → Nat) (z : gh_B) (nn : Nat) (y : Int32) (v : Int32) (ja : Nat) (jo : Nat → Int64) (hz : z 3 0 = nI nn) (hz32 : nn ≤ 32) : Met l yL_written wsL_written ({ frames := 7, cells := 1, slots := 6, locals := 112 } : Room) (gx_w G [.ref h, .int y, .int v, .ref ja] ((wH h (b 5) (a 0) (d 0)) ++ (wS G b z) ++ (wL G ja jo)) sz) (va_Qi (fun (r9 : Int32) (_ : Unit) => r9 = gc_k2 (gh_rg y (z 3 0)) (gh_iw v 0 2)) (fun _ t9 => va_P G.1 vwCl ((wH h (b 5) (a 0) (d 0)) ++ (wS G b z) ++ (wL G ja (gx_if (gc_k2 (gh_rg y (z 3 0)) (gh_iw v 0 2)) (vp_updL jo 0 (gc_wr z y.toNatClampNeg v.toNatClampNeg).toInt64) jo))) t9.heap) (va_A ((wH h (b 5) (a 0) (d 0)) ++ (wS G b z) ++ (wL G ja jo)) sz)) 1 6 (va_A ((wH h (b 5) (a 0) (d 0)) ++ (wS G b z) ++ (wL G ja jo)) sz) := by
  refine gx_ofWH (cc := cL_written) (maxL := 5) (ret := some .int) (hh := [(0, 10, 13, 21)]) (by decide) rfl ?_
  intro p e s m args below meth c s₁ B hml hv
  obtain ⟨rfl, hsz, hP, hE, hD0, hV, hZ⟩ := hv
  have hx := B.exec
  have hb := B.bytes
  have hr := B.returns
  have hts := atoms_spec (ws := wsL_written) B.pre
  have hown : s.vm.findClass RL = some m.cls := findClass_of_methodNamed B.named
  have hlocks := B.notSynchronized
  have hK := hE.1
  subst hsz
  have hD := hD0.self (sz := s.heap.size)
  have htab : c.exceptionTable.toList = tableOf [(0, 10, 13, 21)] := vx_table (x := yL_written) B (hts _ List.mem_cons_self)
  generalize hAe : va_A ((wH h (b 5) (a 0) (d 0)) ++ (wS G b z) ++ (wL G ja jo)) s.heap.size = A at hD hZ ⊢
  have hA : ∀ q : Nat, s.heap.size ≤ q → A q := fun q h => by rw [← hAe]; exact Or.inr h
  have hS : va_S A s.heap s.heap [] := va_S.rf
  have hl := lv_entry ([.ref h, .int y, .int v, .ref ja]) (n := 5) (Nat.le_of_ble_eq_true rfl)
  rw [lg_entry_eq]
  generalize (lg_sl ([.ref h, .int y, .int v, .ref ja]) ++ List.replicate (5 - (lg_sl ([.ref h, .int y, .int v, .ref ja])).length) Slot.unset).toArray = ls at hl ⊢
  have hl : lv_has ls 5 [(0, .ref h), (1, .int y), (2, .int v), (3, .ref ja)] := hl
  refine lv_aload_n hx hb dL_written_0 rfl (lv_at hl 3 rfl) ?_
  refine lv_iconst (v := 0) hx hb dL_written_1 (by decide) ?_
  refine lv_aload_n hx hb dL_written_2 rfl (lv_at hl 0 rfl) ?_
  refine lv_iload_n hx hb dL_written_3 rfl (lv_at hl 1 rfl) ?_
  refine lv_iload_n hx hb dL_written_4 rfl (lv_at hl 2 rfl) ?_
  refine gx_cx (wr := wL G ja jo) (ws' := fun _ => (wH h (b 5) (a 0) (d 0)) ++ (wS G b z) ++ (wL G ja jo)) (vx_runV (As := [.int y, .int v]) (rest := [.int 0, .ref ja]) ⟨hx, hb, hml, hown, hts⟩ (c_X2_written l hfl G s.heap.size h a b d z nn y v hz hz32) (cwV 2 hts gL_written_X2_written rfl rfl rfl ⟨rfl, hdS_X2_written⟩ ⟨Nat.le_of_ble_eq_true rfl, Nat.le_of_ble_eq_true rfl⟩) (gx_wV hE (hP.sub (ws' := (wH h (b 5) (a 0) (d 0)) ++ (wS G b z)) [0, 1, 2, 3, 4] rfl) (hD.sub (ws' := (wH h (b 5) (a 0) (d 0)) ++ (wS G b z)) [0, 1, 2, 3, 4] (by decide) rfl) hV ((hZ.kept hS.2.1).narrow (va_free (wc := (wH h (b 5) (a 0) (d 0)) ++ (wS G b z)) hD hS hA [0, 1, 2, 3, 4] rfl)) (ci := 2) (q0 := 0) rfl rfl) rfl rfl hl.1 rfl (lv_room (Nat.le_of_ble_eq_true rfl)) dL_written_5 ⟨Nat.le_of_ble_eq_true rfl, Nat.le_of_ble_eq_true rfl⟩) hP hD hS hA [0, 1, 2, 3, 4] [5] [1, 2, 3, 4, 5, 0] rfl rfl (by decide) (by decide) (by decide) [h, b 5, b 0, b 1, b 2] [h, b 5, b 0, b 1, b 2, ja] (fun _ => rfl) rfl (fun _ => rfl) rfl (fun _ => rfl) rfl (fun E9 ce q9 H locs hC9 hP hD hS h7 h8 h9 => ?_) (fun u9 H locs hk hP hD hS => ?_)
  · skip
    obtain ⟨rfl, hk⟩ := hC9
    · skip
      refine vx_catch (name := "java/lang/IndexOutOfBoundsException") (E := gx_O) hown [] ⟨0, 10, 13, 21⟩ [] htab (fun z hz => absurd hz List.not_mem_nil) (by decide) (by decide) (hts (.classLink RL 21 "java/lang/IndexOutOfBoundsException") (List.mem_of_getElem? (i := 1) rfl)) (va_Nw.use rfl hV.1.2.2) h7 h8 h9 ?_
      refine lv_astore (lv' := [(4, .ref q9), (0, .ref h), (1, .int y), (2, .int v), (3, .ref ja)]) hx hb dL_written_13 hl (by decide) rfl (fun ls hl => ?_)
      refine lv_iconst (v := 1) hx hb dL_written_15 (by decide) ?_
      have hP9 : va_P G.1 vwCl ((wH h (b 5) (a 0) (d 0)) ++ (wS G b z) ++ (wL G ja (gx_if (gc_k2 (gh_rg y (z 3 0)) (gh_iw v 0 2)) (vp_updL jo 0 (gc_wr z y.toNatClampNeg v.toNatClampNeg).toInt64) jo))) H := by simp only [gx_if_n hk (show ¬ (1 : Int32) = 0 by decide)]; exact hP
      exact W.iret (v := 1) hx hb hr (fun t9 ht hW => ⟨⟨1, (), rfl, hk.symm, gh_hp hP9 ht⟩, hS.F ht⟩) hS.2.2 dL_written_16
  · skip
    refine lv_i2l (v := (gc_wr z y.toNatClampNeg v.toNatClampNeg).toInt64) hx hb dL_written_8 rfl ?_
    refine va_last hx hb hK hP hD hS 5 2 rfl rfl gx_in0 dL_written_9 (fun H locs hP hD hS => ?_)
    rw [gx_t0] at hP hD
    refine lv_goto (tgt := 17) hx hb dL_written_10 (by decide) ?_
    refine lv_iconst (v := 0) hx hb dL_written_17 (by decide) ?_
    have hP9 : va_P G.1 vwCl ((wH h (b 5) (a 0) (d 0)) ++ (wS G b z) ++ (wL G ja (gx_if (gc_k2 (gh_rg y (z 3 0)) (gh_iw v 0 2)) (vp_updL jo 0 (gc_wr z y.toNatClampNeg v.toNatClampNeg).toInt64) jo))) H := by simp only [gx_if_p hk]; exact hP
    exact W.iret (v := 0) hx hb hr (fun t9 ht hW => ⟨⟨0, (), rfl, hk.symm, gh_hp hP9 ht⟩, hS.F ht⟩) hS.2.2 dL_written_18
set_option maxHeartbeats 4000000 in
set_option maxRecDepth 100000 in
theorem c_L_play (l : Launch) (hfl : l.stackTraces = false) (G : gh_G) (sz : Nat) (h : Nat) (a : Nat → Nat) (b : Nat → Nat) (d : Nat → Nat) (o : gh_B) (z : gh_B) (n : Nat) (nn : Nat) (y : Int32) (ja : Nat) (jo : Nat → Int64) (hn : o 10 0 = nI n) (hn16 : n ≤ 16) (hz : z 3 0 = nI nn) (hz32 : nn ≤ 32) : Met l yL_play wsL_play ({ frames := 7, cells := 1, slots := 6, locals := 137 } : Room) (gx_w G [.ref h, .int y, .ref ja] ((wH h (b 5) (a 0) (d 0)) ++ (wO G a (b 5) o) ++ (wS G b z) ++ (wL G ja jo)) sz) (va_Qi (fun (r9 : Int32) (_ : Unit) => r9 = gc_k1 (gh_iw y 1 200)) (fun _ t9 => va_P G.1 vwCl ((wH h (b 5) (a 0) (d 0)) ++ (wO G a (b 5) (gx_if (gc_k1 (gh_iw y 1 200)) (gh_go z o n nn y.toNatClampNeg) (o))) ++ (wS G b z) ++ (wL G ja (gx_if (gc_k1 (gh_iw y 1 200)) (vp_updL jo 0 (gh_go z o n nn y.toNatClampNeg 12 0 - o 12 0).toInt64) jo))) t9.heap) (va_A ((wH h (b 5) (a 0) (d 0)) ++ (wO G a (b 5) o) ++ (wS G b z) ++ (wL G ja jo)) sz)) 1 6 (va_A ((wH h (b 5) (a 0) (d 0)) ++ (wO G a (b 5) o) ++ (wS G b z) ++ (wL G ja jo)) sz) := by
  refine gx_ofWH (cc := cL_play) (maxL := 4) (ret := some .int) (hh := [(0, 9, 12, 13)]) (by decide) rfl ?_
  intro p e s m args below meth c s₁ B hml hv
  obtain ⟨rfl, hsz, hP, hE, hD0, hV, hZ⟩ := hv
  have hx := B.exec
  have hb := B.bytes
  have hr := B.returns
  have hts := atoms_spec (ws := wsL_play) B.pre
  have hown : s.vm.findClass RL = some m.cls := findClass_of_methodNamed B.named
  have hlocks := B.notSynchronized
  have hK := hE.1
  subst hsz
  have hD := hD0.self (sz := s.heap.size)
  have htab : c.exceptionTable.toList = tableOf [(0, 9, 12, 13)] := vx_table (x := yL_play) B (hts _ List.mem_cons_self)
  generalize hAe : va_A ((wH h (b 5) (a 0) (d 0)) ++ (wO G a (b 5) o) ++ (wS G b z) ++ (wL G ja jo)) s.heap.size = A at hD hZ ⊢
  have hA : ∀ q : Nat, s.heap.size ≤ q → A q := fun q h => by rw [← hAe]; exact Or.inr h
  have hS : va_S A s.heap s.heap [] := va_S.rf
  have hl := lv_entry ([.ref h, .int y, .ref ja]) (n := 4) (Nat.le_of_ble_eq_true rfl)
  rw [lg_entry_eq]
  generalize (lg_sl ([.ref h, .int y, .ref ja]) ++ List.replicate (4 - (lg_sl ([.ref h, .int y, .ref ja])).length) Slot.unset).toArray = ls at hl ⊢
  have hl : lv_has ls 4 [(0, .ref h), (1, .int y), (2, .ref ja)] := hl
  refine lv_aload_n hx hb dL_play_0 rfl (lv_at hl 2 rfl) ?_
  refine lv_iconst (v := 0) hx hb dL_play_1 (by decide) ?_
  refine lv_aload_n hx hb dL_play_2 rfl (lv_at hl 0 rfl) ?_
  refine lv_iload_n hx hb dL_play_3 rfl (lv_at hl 1 rfl) ?_
  refine gx_cx (wr := wL G ja jo) (ws' := fun _ => (wH h (b 5) (a 0) (d 0)) ++ (wO G a (b 5) (gh_go z o n nn y.toNatClampNeg)) ++ (wS G b z) ++ (wL G ja jo)) (vx_runV (As := [.int y]) (rest := [.int 0, .ref ja]) ⟨hx, hb, hml, hown, hts⟩ (c_X2_play l hfl G s.heap.size h a b d o z n nn y hn hn16 hz hz32) (cwV 1 hts gL_play_X2_play rfl rfl rfl ⟨rfl, hdS_X2_play⟩ ⟨Nat.le_of_ble_eq_true rfl, Nat.le_of_ble_eq_true rfl⟩) (gx_wV hE (hP.sub (ws' := (wH h (b 5) (a 0) (d 0)) ++ (wO G a (b 5) o) ++ (wS G b z)) [0, 1, 2, 3, 4, 5, 6, 7, 8, 9, 10, 11, 12, 13, 14] rfl) (hD.sub (ws' := (wH h (b 5) (a 0) (d 0)) ++ (wO G a (b 5) o) ++ (wS G b z)) [0, 1, 2, 3, 4, 5, 6, 7, 8, 9, 10, 11, 12, 13, 14] (by decide) rfl) hV ((hZ.kept hS.2.1).narrow (va_free (wc := (wH h (b 5) (a 0) (d 0)) ++ (wO G a (b 5) o) ++ (wS G b z)) hD hS hA [0, 1, 2, 3, 4, 5, 6, 7, 8, 9, 10, 11, 12, 13, 14] rfl)) (ci := 2) (q0 := 0) rfl rfl) rfl rfl hl.1 rfl (lv_room (Nat.le_of_ble_eq_true rfl)) dL_play_4 ⟨Nat.le_of_ble_eq_true rfl, Nat.le_of_ble_eq_true rfl⟩) hP hD hS hA [0, 1, 2, 3, 4, 5, 6, 7, 8, 9, 10, 11, 12, 13, 14] [15] [1, 2, 3, 4, 5, 6, 7, 8, 9, 10, 11, 12, 13, 14, 15, 0] rfl rfl (by decide) (by decide) (by decide) [h, a 0, a 1, a 2, a 3, a 4, a 5, a 6, a 7, a 8, a 9, b 5, b 0, b 1, b 2] [h, a 0, a 1, a 2, a 3, a 4, a 5, a 6, a 7, a 8, a 9, b 5, b 0, b 1, b 2, ja] (fun _ => rfl) rfl (fun _ => rfl) rfl (fun _ => rfl) rfl (fun E9 ce q9 H locs hC9 hP hD hS h7 h8 h9 => ?_) (fun u9 H locs hk hP hD hS => ?_)
  · skip
    obtain ⟨rfl, hk⟩ := hC9
    · skip
      refine vx_catch (name := "java/lang/IllegalArgumentException") (E := gx_A) hown [] ⟨0, 9, 12, 13⟩ [] htab (fun z hz => absurd hz List.not_mem_nil) (by decide) (by decide) (hts (.classLink RL 13 "java/lang/IllegalArgumentException") (List.mem_of_getElem? (i := 1) rfl)) (va_Nw.use rfl hV.1.1) h7 h8 h9 ?_
      refine lv_astore_n (lv' := [(3, .ref q9), (0, .ref h), (1, .int y), (2, .ref ja)]) hx hb dL_play_12 rfl hl (by decide) rfl (fun ls hl => ?_)
      refine lv_iconst (v := 1) hx hb dL_play_13 (by decide) ?_
      have hP9 : va_P G.1 vwCl ((wH h (b 5) (a 0) (d 0)) ++ (wO G a (b 5) (gx_if (gc_k1 (gh_iw y 1 200)) (gh_go z o n nn y.toNatClampNeg) (o))) ++ (wS G b z) ++ (wL G ja (gx_if (gc_k1 (gh_iw y 1 200)) (vp_updL jo 0 (gh_go z o n nn y.toNatClampNeg 12 0 - o 12 0).toInt64) jo))) H := by simp only [gx_if_n hk (show ¬ (1 : Int32) = 0 by decide)]; exact hP
      exact W.iret (v := 1) hx hb hr (fun t9 ht hW => ⟨⟨1, (), rfl, hk.symm, gh_hp hP9 ht⟩, hS.F ht⟩) hS.2.2 dL_play_14
  · skip
    refine lv_i2l (v := (gh_go z o n nn y.toNatClampNeg 12 0 - o 12 0).toInt64) hx hb dL_play_7 rfl ?_
    refine va_last hx hb hK hP hD hS 15 2 rfl rfl gx_in0 dL_play_8 (fun H locs hP hD hS => ?_)
    rw [gx_t0] at hP hD
    refine lv_goto (tgt := 15) hx hb dL_play_9 (by decide) ?_
    refine lv_iconst (v := 0) hx hb dL_play_15 (by decide) ?_
    have hP9 : va_P G.1 vwCl ((wH h (b 5) (a 0) (d 0)) ++ (wO G a (b 5) (gx_if (gc_k1 (gh_iw y 1 200)) (gh_go z o n nn y.toNatClampNeg) (o))) ++ (wS G b z) ++ (wL G ja (gx_if (gc_k1 (gh_iw y 1 200)) (vp_updL jo 0 (gh_go z o n nn y.toNatClampNeg 12 0 - o 12 0).toInt64) jo))) H := by simp only [gx_if_p hk]; exact hP
    exact W.iret (v := 0) hx hb hr (fun t9 ht hW => ⟨⟨0, (), rfl, hk.symm, gh_hp hP9 ht⟩, hS.F ht⟩) hS.2.2 dL_play_16
set_option maxHeartbeats 4000000 in
set_option maxRecDepth 100000 in
theorem c_L_count (l : Launch) (hfl : l.stackTraces = false) (G : gh_G) (sz : Nat) (h : Nat) (a : Nat → Nat) (b : Nat → Nat) (d : Nat → Nat) (o : gh_B) (z : gh_B) (n : Nat) (nn : Nat) (y : Int32) (ja : Nat) (jo : Nat → Int64) (hn : o 10 0 = nI n) (hn16 : n ≤ 16) (hz : z 3 0 = nI nn) (hz32 : nn ≤ 32) : Met l yL_count wsL_count ({ frames := 7, cells := 1, slots := 6, locals := 132 } : Room) (gx_w G [.ref h, .int y, .ref ja] ((wH h (b 5) (a 0) (d 0)) ++ (wO G a (b 5) o) ++ (wS G b z) ++ (wL G ja jo)) sz) (va_Qi (fun (r9 : Int32) (_ : Unit) => r9 = gc_k1 (gh_iw y 0 8)) (fun _ t9 => va_P G.1 vwCl ((wH h (b 5) (a 0) (d 0)) ++ (wO G a (b 5) o) ++ (wS G b z) ++ (wL G ja (gx_if (gc_k1 (gh_iw y 0 8)) (vp_updL jo 0 (gc_cl o z n y.toNatClampNeg).toInt64) jo))) t9.heap) (va_A ((wH h (b 5) (a 0) (d 0)) ++ (wO G a (b 5) o) ++ (wS G b z) ++ (wL G ja jo)) sz)) 1 6 (va_A ((wH h (b 5) (a 0) (d 0)) ++ (wO G a (b 5) o) ++ (wS G b z) ++ (wL G ja jo)) sz) := by
  refine gx_ofWH (cc := cL_count) (maxL := 4) (ret := some .int) (hh := [(0, 9, 12, 21)]) (by decide) rfl ?_
  intro p e s m args below meth c s₁ B hml hv
  obtain ⟨rfl, hsz, hP, hE, hD0, hV, hZ⟩ := hv
  have hx := B.exec
  have hb := B.bytes
  have hr := B.returns
  have hts := atoms_spec (ws := wsL_count) B.pre
  have hown : s.vm.findClass RL = some m.cls := findClass_of_methodNamed B.named
  have hlocks := B.notSynchronized
  have hK := hE.1
  subst hsz
  have hD := hD0.self (sz := s.heap.size)
  have htab : c.exceptionTable.toList = tableOf [(0, 9, 12, 21)] := vx_table (x := yL_count) B (hts _ List.mem_cons_self)
  generalize hAe : va_A ((wH h (b 5) (a 0) (d 0)) ++ (wO G a (b 5) o) ++ (wS G b z) ++ (wL G ja jo)) s.heap.size = A at hD hZ ⊢
  have hA : ∀ q : Nat, s.heap.size ≤ q → A q := fun q h => by rw [← hAe]; exact Or.inr h
  have hS : va_S A s.heap s.heap [] := va_S.rf
  have hl := lv_entry ([.ref h, .int y, .ref ja]) (n := 4) (Nat.le_of_ble_eq_true rfl)
  rw [lg_entry_eq]
  generalize (lg_sl ([.ref h, .int y, .ref ja]) ++ List.replicate (4 - (lg_sl ([.ref h, .int y, .ref ja])).length) Slot.unset).toArray = ls at hl ⊢
  have hl : lv_has ls 4 [(0, .ref h), (1, .int y), (2, .ref ja)] := hl
  refine lv_aload_n hx hb dL_count_0 rfl (lv_at hl 2 rfl) ?_
  refine lv_iconst (v := 0) hx hb dL_count_1 (by decide) ?_
  refine lv_aload_n hx hb dL_count_2 rfl (lv_at hl 0 rfl) ?_
  refine lv_iload_n hx hb dL_count_3 rfl (lv_at hl 1 rfl) ?_
  refine gx_cx (wr := wL G ja jo) (ws' := fun _ => (wH h (b 5) (a 0) (d 0)) ++ (wO G a (b 5) o) ++ (wS G b z) ++ (wL G ja jo)) (vx_runV (As := [.int y]) (rest := [.int 0, .ref ja]) ⟨hx, hb, hml, hown, hts⟩ (c_X2_count l hfl G s.heap.size h a b d o z n nn y hn hn16 hz hz32) (cwV 1 hts gL_count_X2_count rfl rfl rfl ⟨rfl, hdS_X2_count⟩ ⟨Nat.le_of_ble_eq_true rfl, Nat.le_of_ble_eq_true rfl⟩) (gx_wV hE (hP.sub (ws' := (wH h (b 5) (a 0) (d 0)) ++ (wO G a (b 5) o) ++ (wS G b z)) [0, 1, 2, 3, 4, 5, 6, 7, 8, 9, 10, 11, 12, 13, 14] rfl) (hD.sub (ws' := (wH h (b 5) (a 0) (d 0)) ++ (wO G a (b 5) o) ++ (wS G b z)) [0, 1, 2, 3, 4, 5, 6, 7, 8, 9, 10, 11, 12, 13, 14] (by decide) rfl) hV ((hZ.kept hS.2.1).narrow (va_free (wc := (wH h (b 5) (a 0) (d 0)) ++ (wO G a (b 5) o) ++ (wS G b z)) hD hS hA [0, 1, 2, 3, 4, 5, 6, 7, 8, 9, 10, 11, 12, 13, 14] rfl)) (ci := 2) (q0 := 0) rfl rfl) rfl rfl hl.1 rfl (lv_room (Nat.le_of_ble_eq_true rfl)) dL_count_4 ⟨Nat.le_of_ble_eq_true rfl, Nat.le_of_ble_eq_true rfl⟩) hP hD hS hA [0, 1, 2, 3, 4, 5, 6, 7, 8, 9, 10, 11, 12, 13, 14] [15] [1, 2, 3, 4, 5, 6, 7, 8, 9, 10, 11, 12, 13, 14, 15, 0] rfl rfl (by decide) (by decide) (by decide) [h, a 0, a 1, a 2, a 3, a 4, a 5, a 6, a 7, a 8, a 9, b 5, b 0, b 1, b 2] [h, a 0, a 1, a 2, a 3, a 4, a 5, a 6, a 7, a 8, a 9, b 5, b 0, b 1, b 2, ja] (fun _ => rfl) rfl (fun _ => rfl) rfl (fun _ => rfl) rfl (fun E9 ce q9 H locs hC9 hP hD hS h7 h8 h9 => ?_) (fun u9 H locs hk hP hD hS => ?_)
  · skip
    obtain ⟨rfl, hk⟩ := hC9
    · skip
      refine vx_catch (name := "java/lang/IndexOutOfBoundsException") (E := gx_O) hown [] ⟨0, 9, 12, 21⟩ [] htab (fun z hz => absurd hz List.not_mem_nil) (by decide) (by decide) (hts (.classLink RL 21 "java/lang/IndexOutOfBoundsException") (List.mem_of_getElem? (i := 1) rfl)) (va_Nw.use rfl hV.1.2.2) h7 h8 h9 ?_
      refine lv_astore_n (lv' := [(3, .ref q9), (0, .ref h), (1, .int y), (2, .ref ja)]) hx hb dL_count_12 rfl hl (by decide) rfl (fun ls hl => ?_)
      refine lv_iconst (v := 1) hx hb dL_count_13 (by decide) ?_
      have hP9 : va_P G.1 vwCl ((wH h (b 5) (a 0) (d 0)) ++ (wO G a (b 5) o) ++ (wS G b z) ++ (wL G ja (gx_if (gc_k1 (gh_iw y 0 8)) (vp_updL jo 0 (gc_cl o z n y.toNatClampNeg).toInt64) jo))) H := by simp only [gx_if_n hk (show ¬ (1 : Int32) = 0 by decide)]; exact hP
      exact W.iret (v := 1) hx hb hr (fun t9 ht hW => ⟨⟨1, (), rfl, hk.symm, gh_hp hP9 ht⟩, hS.F ht⟩) hS.2.2 dL_count_14
  · skip
    refine lv_i2l (v := (gc_cl o z n y.toNatClampNeg).toInt64) hx hb dL_count_7 rfl ?_
    refine va_last hx hb hK hP hD hS 15 2 rfl rfl gx_in0 dL_count_8 (fun H locs hP hD hS => ?_)
    rw [gx_t0] at hP hD
    refine lv_goto (tgt := 15) hx hb dL_count_9 (by decide) ?_
    refine lv_iconst (v := 0) hx hb dL_count_15 (by decide) ?_
    have hP9 : va_P G.1 vwCl ((wH h (b 5) (a 0) (d 0)) ++ (wO G a (b 5) o) ++ (wS G b z) ++ (wL G ja (gx_if (gc_k1 (gh_iw y 0 8)) (vp_updL jo 0 (gc_cl o z n y.toNatClampNeg).toInt64) jo))) H := by simp only [gx_if_p hk]; exact hP
    exact W.iret (v := 0) hx hb hr (fun t9 ht hW => ⟨⟨0, (), rfl, hk.symm, gh_hp hP9 ht⟩, hS.F ht⟩) hS.2.2 dL_count_16
set_option maxHeartbeats 4000000 in
set_option maxRecDepth 100000 in
theorem c_L_needs (l : Launch) (hfl : l.stackTraces = false) (G : gh_G) (sz : Nat) (h : Nat) (a : Nat → Nat) (b : Nat → Nat) (d : Nat → Nat) (o : gh_B) (n : Nat) (y : Int32) (v : Int32) (ja : Nat) (jo : Nat → Int64) (hn : o 10 0 = nI n) (hn16 : n ≤ 16) : Met l yL_needs wsL_needs ({ frames := 7, cells := 1, slots := 6, locals := 112 } : Room) (gx_w G [.ref h, .int y, .int v, .ref ja] ((wH h (b 5) (a 0) (d 0)) ++ (wO G a (b 5) o) ++ (wL G ja jo)) sz) (va_Qi (fun (r9 : Int32) (_ : Unit) => r9 = gc_k3 (gh_rg y (o 10 0)) (gh_iw v 0 120)) (fun _ t9 => va_P G.1 vwCl ((wH h (b 5) (a 0) (d 0)) ++ (wO G a (b 5) o) ++ (wL G ja (gx_if (gc_k3 (gh_rg y (o 10 0)) (gh_iw v 0 120)) (vp_updL jo 0 (gh_fw o y.toNatClampNeg v).toInt64) jo))) t9.heap) (va_A ((wH h (b 5) (a 0) (d 0)) ++ (wO G a (b 5) o) ++ (wL G ja jo)) sz)) 1 6 (va_A ((wH h (b 5) (a 0) (d 0)) ++ (wO G a (b 5) o) ++ (wL G ja jo)) sz) := by
  refine gx_ofWH (cc := cL_needs) (maxL := 5) (ret := some .int) (hh := [(0, 10, 13, 21), (0, 10, 17, 13)]) (by decide) rfl ?_
  intro p e s m args below meth c s₁ B hml hv
  obtain ⟨rfl, hsz, hP, hE, hD0, hV, hZ⟩ := hv
  have hx := B.exec
  have hb := B.bytes
  have hr := B.returns
  have hts := atoms_spec (ws := wsL_needs) B.pre
  have hown : s.vm.findClass RL = some m.cls := findClass_of_methodNamed B.named
  have hlocks := B.notSynchronized
  have hK := hE.1
  subst hsz
  have hD := hD0.self (sz := s.heap.size)
  have htab : c.exceptionTable.toList = tableOf [(0, 10, 13, 21), (0, 10, 17, 13)] := vx_table (x := yL_needs) B (hts _ List.mem_cons_self)
  generalize hAe : va_A ((wH h (b 5) (a 0) (d 0)) ++ (wO G a (b 5) o) ++ (wL G ja jo)) s.heap.size = A at hD hZ ⊢
  have hA : ∀ q : Nat, s.heap.size ≤ q → A q := fun q h => by rw [← hAe]; exact Or.inr h
  have hS : va_S A s.heap s.heap [] := va_S.rf
  have hl := lv_entry ([.ref h, .int y, .int v, .ref ja]) (n := 5) (Nat.le_of_ble_eq_true rfl)
  rw [lg_entry_eq]
  generalize (lg_sl ([.ref h, .int y, .int v, .ref ja]) ++ List.replicate (5 - (lg_sl ([.ref h, .int y, .int v, .ref ja])).length) Slot.unset).toArray = ls at hl ⊢
  have hl : lv_has ls 5 [(0, .ref h), (1, .int y), (2, .int v), (3, .ref ja)] := hl
  refine lv_aload_n hx hb dL_needs_0 rfl (lv_at hl 3 rfl) ?_
  refine lv_iconst (v := 0) hx hb dL_needs_1 (by decide) ?_
  refine lv_aload_n hx hb dL_needs_2 rfl (lv_at hl 0 rfl) ?_
  refine lv_iload_n hx hb dL_needs_3 rfl (lv_at hl 1 rfl) ?_
  refine lv_iload_n hx hb dL_needs_4 rfl (lv_at hl 2 rfl) ?_
  refine gx_cx (wr := wL G ja jo) (ws' := fun _ => (wH h (b 5) (a 0) (d 0)) ++ (wO G a (b 5) o) ++ (wL G ja jo)) (vx_runV (As := [.int y, .int v]) (rest := [.int 0, .ref ja]) ⟨hx, hb, hml, hown, hts⟩ (c_X2_needs l hfl G s.heap.size h a b d o n y v hn hn16) (cwV 2 hts gL_needs_X2_needs rfl rfl rfl ⟨rfl, hdS_X2_needs⟩ ⟨Nat.le_of_ble_eq_true rfl, Nat.le_of_ble_eq_true rfl⟩) (gx_wV hE (hP.sub (ws' := (wH h (b 5) (a 0) (d 0)) ++ (wO G a (b 5) o)) [0, 1, 2, 3, 4, 5, 6, 7, 8, 9, 10] rfl) (hD.sub (ws' := (wH h (b 5) (a 0) (d 0)) ++ (wO G a (b 5) o)) [0, 1, 2, 3, 4, 5, 6, 7, 8, 9, 10] (by decide) rfl) hV ((hZ.kept hS.2.1).narrow (va_free (wc := (wH h (b 5) (a 0) (d 0)) ++ (wO G a (b 5) o)) hD hS hA [0, 1, 2, 3, 4, 5, 6, 7, 8, 9, 10] rfl)) (ci := 2) (q0 := 0) rfl rfl) rfl rfl hl.1 rfl (lv_room (Nat.le_of_ble_eq_true rfl)) dL_needs_5 ⟨Nat.le_of_ble_eq_true rfl, Nat.le_of_ble_eq_true rfl⟩) hP hD hS hA [0, 1, 2, 3, 4, 5, 6, 7, 8, 9, 10] [11] [1, 2, 3, 4, 5, 6, 7, 8, 9, 10, 11, 0] rfl rfl (by decide) (by decide) (by decide) [h, a 0, a 1, a 2, a 3, a 4, a 5, a 6, a 7, a 8, a 9] [h, a 0, a 1, a 2, a 3, a 4, a 5, a 6, a 7, a 8, a 9, ja] (fun _ => rfl) rfl (fun _ => rfl) rfl (fun _ => rfl) rfl (fun E9 ce q9 H locs hC9 hP hD hS h7 h8 h9 => ?_) (fun u9 H locs hk hP hD hS => ?_)
  · skip
    rcases hC9 with ⟨rfl, hk⟩ | ⟨rfl, hk⟩
    · skip
      refine vx_catch (name := "java/lang/IndexOutOfBoundsException") (E := gx_O) hown [] ⟨0, 10, 13, 21⟩ [⟨0, 10, 17, 13⟩] htab (fun z hz => absurd hz List.not_mem_nil) (by decide) (by decide) (hts (.classLink RL 21 "java/lang/IndexOutOfBoundsException") (List.mem_of_getElem? (i := 1) rfl)) (va_Nw.use rfl hV.1.2.2) h7 h8 h9 ?_
      refine lv_astore (lv' := [(4, .ref q9), (0, .ref h), (1, .int y), (2, .int v), (3, .ref ja)]) hx hb dL_needs_13 hl (by decide) rfl (fun ls hl => ?_)
      refine lv_iconst (v := 1) hx hb dL_needs_15 (by decide) ?_
      have hP9 : va_P G.1 vwCl ((wH h (b 5) (a 0) (d 0)) ++ (wO G a (b 5) o) ++ (wL G ja (gx_if (gc_k3 (gh_rg y (o 10 0)) (gh_iw v 0 120)) (vp_updL jo 0 (gh_fw o y.toNatClampNeg v).toInt64) jo))) H := by simp only [gx_if_n hk (show ¬ (1 : Int32) = 0 by decide)]; exact hP
      exact W.iret (v := 1) hx hb hr (fun t9 ht hW => ⟨⟨1, (), rfl, hk.symm, gh_hp hP9 ht⟩, hS.F ht⟩) hS.2.2 dL_needs_16
    · skip
      refine vx_catch (name := "java/lang/IllegalArgumentException") (E := gx_A) hown [⟨0, 10, 13, 21⟩] ⟨0, 10, 17, 13⟩ [] htab (fun z hz => by
        simp only [List.mem_cons, List.not_mem_nil, or_false] at hz
        subst hz
        · exact Or.inr ⟨by decide, "java/lang/IndexOutOfBoundsException", (hts (.classLink RL 21 "java/lang/IndexOutOfBoundsException") (List.mem_of_getElem? (i := 1) rfl)), hV.2.2.2.1⟩) (by decide) (by decide) (hts (.classLink RL 13 "java/lang/IllegalArgumentException") (List.mem_of_getElem? (i := 2) rfl)) (va_Nw.use rfl hV.1.1) h7 h8 h9 ?_
      refine lv_astore (lv' := [(4, .ref q9), (0, .ref h), (1, .int y), (2, .int v), (3, .ref ja)]) hx hb dL_needs_17 hl (by decide) rfl (fun ls hl => ?_)
      refine lv_iconst (v := 2) hx hb dL_needs_19 (by decide) ?_
      have hP9 : va_P G.1 vwCl ((wH h (b 5) (a 0) (d 0)) ++ (wO G a (b 5) o) ++ (wL G ja (gx_if (gc_k3 (gh_rg y (o 10 0)) (gh_iw v 0 120)) (vp_updL jo 0 (gh_fw o y.toNatClampNeg v).toInt64) jo))) H := by simp only [gx_if_n hk (show ¬ (2 : Int32) = 0 by decide)]; exact hP
      exact W.iret (v := 2) hx hb hr (fun t9 ht hW => ⟨⟨2, (), rfl, hk.symm, gh_hp hP9 ht⟩, hS.F ht⟩) hS.2.2 dL_needs_20
  · skip
    refine lv_i2l (v := (gh_fw o y.toNatClampNeg v).toInt64) hx hb dL_needs_8 rfl ?_
    refine va_last hx hb hK hP hD hS 11 2 rfl rfl gx_in0 dL_needs_9 (fun H locs hP hD hS => ?_)
    rw [gx_t0] at hP hD
    refine lv_goto (tgt := 21) hx hb dL_needs_10 (by decide) ?_
    refine lv_iconst (v := 0) hx hb dL_needs_21 (by decide) ?_
    have hP9 : va_P G.1 vwCl ((wH h (b 5) (a 0) (d 0)) ++ (wO G a (b 5) o) ++ (wL G ja (gx_if (gc_k3 (gh_rg y (o 10 0)) (gh_iw v 0 120)) (vp_updL jo 0 (gh_fw o y.toNatClampNeg v).toInt64) jo))) H := by simp only [gx_if_p hk]; exact hP
    exact W.iret (v := 0) hx hb hr (fun t9 ht hW => ⟨⟨0, (), rfl, hk.symm, gh_hp hP9 ht⟩, hS.F ht⟩) hS.2.2 dL_needs_22
set_option maxHeartbeats 4000000 in
set_option maxRecDepth 100000 in
theorem c_L_foresee (l : Launch) (hfl : l.stackTraces = false) (G : gh_G) (sz : Nat) (h : Nat) (a : Nat → Nat) (b : Nat → Nat) (d : Nat → Nat) (o : gh_B) (z : gh_B) (q : gh_B) (n : Nat) (nn : Nat) (y : Int32) (v : Int32) (ja : Nat) (jo : Nat → Int64) (hn : o 10 0 = nI n) (hn16 : n ≤ 16) (hz : z 3 0 = nI nn) (hz32 : nn ≤ 32) : Met l yL_foresee wsL_foresee ({ frames := 7, cells := 1, slots := 6, locals := 137 } : Room) (gx_w G [.ref h, .int y, .int v, .ref ja] ((wH h (b 5) (a 0) (d 0)) ++ (wO G a (b 5) o) ++ (wO G d (b 5) q) ++ (wS G b z) ++ (wL G ja jo)) sz) (va_Qi (fun (r9 : Int32) (_ : gh_B) => r9 = gc_k3 (gh_iw y 1 150) (gh_iw v 0 3)) (fun u t9 => va_P G.1 vwCl ((wH h (b 5) (a 0) (d 0)) ++ (wO G a (b 5) o) ++ (wO G d (b 5) u) ++ (wS G b z) ++ (wL G ja (gx_if (gc_k3 (gh_iw y 1 150) (gh_iw v 0 3)) (vp_updL jo 0 (gc_fs o (gh_go z (gh_to o q n) n nn y.toNatClampNeg) n v.toNatClampNeg).toInt64) jo))) t9.heap) (va_A ((wH h (b 5) (a 0) (d 0)) ++ (wO G a (b 5) o) ++ (wO G d (b 5) q) ++ (wS G b z) ++ (wL G ja jo)) sz)) 1 6 (va_A ((wH h (b 5) (a 0) (d 0)) ++ (wO G a (b 5) o) ++ (wO G d (b 5) q) ++ (wS G b z) ++ (wL G ja jo)) sz) := by
  refine gx_ofWH (cc := cL_foresee) (maxL := 5) (ret := some .int) (hh := [(0, 10, 13, 13), (0, 10, 17, 21)]) (by decide) rfl ?_
  intro p e s m args below meth c s₁ B hml hv
  obtain ⟨rfl, hsz, hP, hE, hD0, hV, hZ⟩ := hv
  have hx := B.exec
  have hb := B.bytes
  have hr := B.returns
  have hts := atoms_spec (ws := wsL_foresee) B.pre
  have hown : s.vm.findClass RL = some m.cls := findClass_of_methodNamed B.named
  have hlocks := B.notSynchronized
  have hK := hE.1
  subst hsz
  have hD := hD0.self (sz := s.heap.size)
  have htab : c.exceptionTable.toList = tableOf [(0, 10, 13, 13), (0, 10, 17, 21)] := vx_table (x := yL_foresee) B (hts _ List.mem_cons_self)
  generalize hAe : va_A ((wH h (b 5) (a 0) (d 0)) ++ (wO G a (b 5) o) ++ (wO G d (b 5) q) ++ (wS G b z) ++ (wL G ja jo)) s.heap.size = A at hD hZ ⊢
  have hA : ∀ q : Nat, s.heap.size ≤ q → A q := fun q h => by rw [← hAe]; exact Or.inr h
  have hS : va_S A s.heap s.heap [] := va_S.rf
  have hl := lv_entry ([.ref h, .int y, .int v, .ref ja]) (n := 5) (Nat.le_of_ble_eq_true rfl)
  rw [lg_entry_eq]
  generalize (lg_sl ([.ref h, .int y, .int v, .ref ja]) ++ List.replicate (5 - (lg_sl ([.ref h, .int y, .int v, .ref ja])).length) Slot.unset).toArray = ls at hl ⊢
  have hl : lv_has ls 5 [(0, .ref h), (1, .int y), (2, .int v), (3, .ref ja)] := hl
  refine lv_aload_n hx hb dL_foresee_0 rfl (lv_at hl 3 rfl) ?_
  refine lv_iconst (v := 0) hx hb dL_foresee_1 (by decide) ?_
  refine lv_aload_n hx hb dL_foresee_2 rfl (lv_at hl 0 rfl) ?_
  refine lv_iload_n hx hb dL_foresee_3 rfl (lv_at hl 1 rfl) ?_
  refine lv_iload_n hx hb dL_foresee_4 rfl (lv_at hl 2 rfl) ?_
  refine gx_cx (wr := wL G ja jo) (ws' := fun u => (wH h (b 5) (a 0) (d 0)) ++ (wO G a (b 5) o) ++ (wO G d (b 5) u) ++ (wS G b z) ++ (wL G ja jo)) (vx_runV (As := [.int y, .int v]) (rest := [.int 0, .ref ja]) ⟨hx, hb, hml, hown, hts⟩ (c_X2_foresee l hfl G s.heap.size h a b d o z q n nn y v hn hn16 hz hz32) (cwV 2 hts gL_foresee_X2_foresee rfl rfl rfl ⟨rfl, hdS_X2_foresee⟩ ⟨Nat.le_of_ble_eq_true rfl, Nat.le_of_ble_eq_true rfl⟩) (gx_wV hE (hP.sub (ws' := (wH h (b 5) (a 0) (d 0)) ++ (wO G a (b 5) o) ++ (wO G d (b 5) q) ++ (wS G b z)) [0, 1, 2, 3, 4, 5, 6, 7, 8, 9, 10, 11, 12, 13, 14, 15, 16, 17, 18, 19, 20, 21, 22, 23, 24] rfl) (hD.sub (ws' := (wH h (b 5) (a 0) (d 0)) ++ (wO G a (b 5) o) ++ (wO G d (b 5) q) ++ (wS G b z)) [0, 1, 2, 3, 4, 5, 6, 7, 8, 9, 10, 11, 12, 13, 14, 15, 16, 17, 18, 19, 20, 21, 22, 23, 24] (by decide) rfl) hV ((hZ.kept hS.2.1).narrow (va_free (wc := (wH h (b 5) (a 0) (d 0)) ++ (wO G a (b 5) o) ++ (wO G d (b 5) q) ++ (wS G b z)) hD hS hA [0, 1, 2, 3, 4, 5, 6, 7, 8, 9, 10, 11, 12, 13, 14, 15, 16, 17, 18, 19, 20, 21, 22, 23, 24] rfl)) (ci := 2) (q0 := 0) rfl rfl) rfl rfl hl.1 rfl (lv_room (Nat.le_of_ble_eq_true rfl)) dL_foresee_5 ⟨Nat.le_of_ble_eq_true rfl, Nat.le_of_ble_eq_true rfl⟩) hP hD hS hA [0, 1, 2, 3, 4, 5, 6, 7, 8, 9, 10, 11, 12, 13, 14, 15, 16, 17, 18, 19, 20, 21, 22, 23, 24] [25] [1, 2, 3, 4, 5, 6, 7, 8, 9, 10, 11, 12, 13, 14, 15, 16, 17, 18, 19, 20, 21, 22, 23, 24, 25, 0] rfl rfl (by decide) (by decide) (by decide) [h, a 0, a 1, a 2, a 3, a 4, a 5, a 6, a 7, a 8, a 9, d 0, d 1, d 2, d 3, d 4, d 5, d 6, d 7, d 8, d 9, b 5, b 0, b 1, b 2] [h, a 0, a 1, a 2, a 3, a 4, a 5, a 6, a 7, a 8, a 9, d 0, d 1, d 2, d 3, d 4, d 5, d 6, d 7, d 8, d 9, b 5, b 0, b 1, b 2, ja] (fun _ => rfl) rfl (fun _ => rfl) rfl (fun _ => rfl) rfl (fun E9 ce q9 H locs hC9 hP hD hS h7 h8 h9 => ?_) (fun u H locs hk hP hD hS => ?_)
  · skip
    rcases hC9 with ⟨rfl, hk⟩ | ⟨rfl, hk⟩
    · skip
      refine vx_catch (name := "java/lang/IllegalArgumentException") (E := gx_A) hown [] ⟨0, 10, 13, 13⟩ [⟨0, 10, 17, 21⟩] htab (fun z hz => absurd hz List.not_mem_nil) (by decide) (by decide) (hts (.classLink RL 13 "java/lang/IllegalArgumentException") (List.mem_of_getElem? (i := 1) rfl)) (va_Nw.use rfl hV.1.1) h7 h8 h9 ?_
      refine lv_astore (lv' := [(4, .ref q9), (0, .ref h), (1, .int y), (2, .int v), (3, .ref ja)]) hx hb dL_foresee_13 hl (by decide) rfl (fun ls hl => ?_)
      refine lv_iconst (v := 1) hx hb dL_foresee_15 (by decide) ?_
      have hP9 : va_P G.1 vwCl ((wH h (b 5) (a 0) (d 0)) ++ (wO G a (b 5) o) ++ (wO G d (b 5) q) ++ (wS G b z) ++ (wL G ja (gx_if (gc_k3 (gh_iw y 1 150) (gh_iw v 0 3)) (vp_updL jo 0 (gc_fs o (gh_go z (gh_to o q n) n nn y.toNatClampNeg) n v.toNatClampNeg).toInt64) jo))) H := by simp only [gx_if_n hk (show ¬ (1 : Int32) = 0 by decide)]; exact hP
      exact W.iret (v := 1) hx hb hr (fun t9 ht hW => ⟨⟨1, q, rfl, hk.symm, gh_hp hP9 ht⟩, hS.F ht⟩) hS.2.2 dL_foresee_16
    · skip
      refine vx_catch (name := "java/lang/IndexOutOfBoundsException") (E := gx_O) hown [⟨0, 10, 13, 13⟩] ⟨0, 10, 17, 21⟩ [] htab (fun z hz => by
        simp only [List.mem_cons, List.not_mem_nil, or_false] at hz
        subst hz
        · exact Or.inr ⟨by decide, "java/lang/IllegalArgumentException", (hts (.classLink RL 13 "java/lang/IllegalArgumentException") (List.mem_of_getElem? (i := 1) rfl)), hV.2.2.2.2.2.1⟩) (by decide) (by decide) (hts (.classLink RL 21 "java/lang/IndexOutOfBoundsException") (List.mem_of_getElem? (i := 2) rfl)) (va_Nw.use rfl hV.1.2.2) h7 h8 h9 ?_
      refine lv_astore (lv' := [(4, .ref q9), (0, .ref h), (1, .int y), (2, .int v), (3, .ref ja)]) hx hb dL_foresee_17 hl (by decide) rfl (fun ls hl => ?_)
      refine lv_iconst (v := 2) hx hb dL_foresee_19 (by decide) ?_
      have hP9 : va_P G.1 vwCl ((wH h (b 5) (a 0) (d 0)) ++ (wO G a (b 5) o) ++ (wO G d (b 5) q) ++ (wS G b z) ++ (wL G ja (gx_if (gc_k3 (gh_iw y 1 150) (gh_iw v 0 3)) (vp_updL jo 0 (gc_fs o (gh_go z (gh_to o q n) n nn y.toNatClampNeg) n v.toNatClampNeg).toInt64) jo))) H := by simp only [gx_if_n hk (show ¬ (2 : Int32) = 0 by decide)]; exact hP
      exact W.iret (v := 2) hx hb hr (fun t9 ht hW => ⟨⟨2, q, rfl, hk.symm, gh_hp hP9 ht⟩, hS.F ht⟩) hS.2.2 dL_foresee_20
  · skip
    refine lv_i2l (v := (gc_fs o (gh_go z (gh_to o q n) n nn y.toNatClampNeg) n v.toNatClampNeg).toInt64) hx hb dL_foresee_8 rfl ?_
    refine va_last hx hb hK hP hD hS 25 2 rfl rfl gx_in0 dL_foresee_9 (fun H locs hP hD hS => ?_)
    rw [gx_t0] at hP hD
    refine lv_goto (tgt := 21) hx hb dL_foresee_10 (by decide) ?_
    refine lv_iconst (v := 0) hx hb dL_foresee_21 (by decide) ?_
    have hP9 : va_P G.1 vwCl ((wH h (b 5) (a 0) (d 0)) ++ (wO G a (b 5) o) ++ (wO G d (b 5) u) ++ (wS G b z) ++ (wL G ja (gx_if (gc_k3 (gh_iw y 1 150) (gh_iw v 0 3)) (vp_updL jo 0 (gc_fs o (gh_go z (gh_to o q n) n nn y.toNatClampNeg) n v.toNatClampNeg).toInt64) jo))) H := by simp only [gx_if_p hk]; exact hP
    exact W.iret (v := 0) hx hb hr (fun t9 ht hW => ⟨⟨0, u, rfl, hk.symm, gh_hp hP9 ht⟩, hS.F ht⟩) hS.2.2 dL_foresee_22
set_option maxHeartbeats 4000000 in
set_option maxRecDepth 100000 in
theorem c_L_advise (l : Launch) (hfl : l.stackTraces = false) (G : gh_G) (sz : Nat) (h : Nat) (a : Nat → Nat) (b : Nat → Nat) (d : Nat → Nat) (o : gh_B) (z : gh_B) (q : gh_B) (n : Nat) (nn : Nat) (ff : Nat → Int32) (f0 : Int32) (y : Int32) (v : Int32) (ja : Nat) (jo : Nat → Int64) (hn : o 10 0 = nI n) (hn16 : n ≤ 16) (hz : z 3 0 = nI nn) (hz32 : nn ≤ 32) (hf0 : ∀ q9 : gh_B, gh_go z (gh_to o q9 n) n nn v.toNatClampNeg 13 0 = f0) (hF : ∀ (q9 : gh_B) (i : Nat), i < n → ¬ gh_cb o i y = 0 → gh_go z (gh_tu (gh_to o q9 n) i y) n nn v.toNatClampNeg 13 0 = ff i) : Met l yL_advise wsL_advise ({ frames := 7, cells := 1, slots := 6, locals := 164 } : Room) (gx_w G [.ref h, .int y, .int v, .ref ja] ((wH h (b 5) (a 0) (d 0)) ++ (wO G a (b 5) o) ++ (wO G d (b 5) q) ++ (wS G b z) ++ (wL G ja jo)) sz) (va_Qi (fun (r9 : Int32) (_ : gh_B) => r9 = gc_k2 (gh_iw y 0 120) (gh_iw v 1 80)) (fun u t9 => va_P G.1 vwCl ((wH h (b 5) (a 0) (d 0)) ++ (wO G a (b 5) o) ++ (wO G d (b 5) u) ++ (wS G b z) ++ (wL G ja (gx_if (gc_k2 (gh_iw y 0 120) (gh_iw v 1 80)) (vp_updL jo 0 ((gc_av (fun i => gh_cb o i y) ff f0 n).2).toInt64) jo))) t9.heap) (va_A ((wH h (b 5) (a 0) (d 0)) ++ (wO G a (b 5) o) ++ (wO G d (b 5) q) ++ (wS G b z) ++ (wL G ja jo)) sz)) 1 6 (va_A ((wH h (b 5) (a 0) (d 0)) ++ (wO G a (b 5) o) ++ (wO G d (b 5) q) ++ (wS G b z) ++ (wL G ja jo)) sz) := by
  refine gx_ofWH (cc := cL_advise) (maxL := 5) (ret := some .int) (hh := [(0, 10, 13, 13)]) (by decide) rfl ?_
  intro p e s m args below meth c s₁ B hml hv
  obtain ⟨rfl, hsz, hP, hE, hD0, hV, hZ⟩ := hv
  have hx := B.exec
  have hb := B.bytes
  have hr := B.returns
  have hts := atoms_spec (ws := wsL_advise) B.pre
  have hown : s.vm.findClass RL = some m.cls := findClass_of_methodNamed B.named
  have hlocks := B.notSynchronized
  have hK := hE.1
  subst hsz
  have hD := hD0.self (sz := s.heap.size)
  have htab : c.exceptionTable.toList = tableOf [(0, 10, 13, 13)] := vx_table (x := yL_advise) B (hts _ List.mem_cons_self)
  generalize hAe : va_A ((wH h (b 5) (a 0) (d 0)) ++ (wO G a (b 5) o) ++ (wO G d (b 5) q) ++ (wS G b z) ++ (wL G ja jo)) s.heap.size = A at hD hZ ⊢
  have hA : ∀ q : Nat, s.heap.size ≤ q → A q := fun q h => by rw [← hAe]; exact Or.inr h
  have hS : va_S A s.heap s.heap [] := va_S.rf
  have hl := lv_entry ([.ref h, .int y, .int v, .ref ja]) (n := 5) (Nat.le_of_ble_eq_true rfl)
  rw [lg_entry_eq]
  generalize (lg_sl ([.ref h, .int y, .int v, .ref ja]) ++ List.replicate (5 - (lg_sl ([.ref h, .int y, .int v, .ref ja])).length) Slot.unset).toArray = ls at hl ⊢
  have hl : lv_has ls 5 [(0, .ref h), (1, .int y), (2, .int v), (3, .ref ja)] := hl
  refine lv_aload_n hx hb dL_advise_0 rfl (lv_at hl 3 rfl) ?_
  refine lv_iconst (v := 0) hx hb dL_advise_1 (by decide) ?_
  refine lv_aload_n hx hb dL_advise_2 rfl (lv_at hl 0 rfl) ?_
  refine lv_iload_n hx hb dL_advise_3 rfl (lv_at hl 1 rfl) ?_
  refine lv_iload_n hx hb dL_advise_4 rfl (lv_at hl 2 rfl) ?_
  refine gx_cx (wr := wL G ja jo) (ws' := fun u => (wH h (b 5) (a 0) (d 0)) ++ (wO G a (b 5) o) ++ (wO G d (b 5) u) ++ (wS G b z) ++ (wL G ja jo)) (vx_runV (As := [.int y, .int v]) (rest := [.int 0, .ref ja]) ⟨hx, hb, hml, hown, hts⟩ (c_X2_advise l hfl G s.heap.size h a b d o z q n nn ff f0 y v hn hn16 hz hz32 hf0 hF) (cwV 2 hts gL_advise_X2_advise rfl rfl rfl ⟨rfl, hdS_X2_advise⟩ ⟨Nat.le_of_ble_eq_true rfl, Nat.le_of_ble_eq_true rfl⟩) (gx_wV hE (hP.sub (ws' := (wH h (b 5) (a 0) (d 0)) ++ (wO G a (b 5) o) ++ (wO G d (b 5) q) ++ (wS G b z)) [0, 1, 2, 3, 4, 5, 6, 7, 8, 9, 10, 11, 12, 13, 14, 15, 16, 17, 18, 19, 20, 21, 22, 23, 24] rfl) (hD.sub (ws' := (wH h (b 5) (a 0) (d 0)) ++ (wO G a (b 5) o) ++ (wO G d (b 5) q) ++ (wS G b z)) [0, 1, 2, 3, 4, 5, 6, 7, 8, 9, 10, 11, 12, 13, 14, 15, 16, 17, 18, 19, 20, 21, 22, 23, 24] (by decide) rfl) hV ((hZ.kept hS.2.1).narrow (va_free (wc := (wH h (b 5) (a 0) (d 0)) ++ (wO G a (b 5) o) ++ (wO G d (b 5) q) ++ (wS G b z)) hD hS hA [0, 1, 2, 3, 4, 5, 6, 7, 8, 9, 10, 11, 12, 13, 14, 15, 16, 17, 18, 19, 20, 21, 22, 23, 24] rfl)) (ci := 2) (q0 := 0) rfl rfl) rfl rfl hl.1 rfl (lv_room (Nat.le_of_ble_eq_true rfl)) dL_advise_5 ⟨Nat.le_of_ble_eq_true rfl, Nat.le_of_ble_eq_true rfl⟩) hP hD hS hA [0, 1, 2, 3, 4, 5, 6, 7, 8, 9, 10, 11, 12, 13, 14, 15, 16, 17, 18, 19, 20, 21, 22, 23, 24] [25] [1, 2, 3, 4, 5, 6, 7, 8, 9, 10, 11, 12, 13, 14, 15, 16, 17, 18, 19, 20, 21, 22, 23, 24, 25, 0] rfl rfl (by decide) (by decide) (by decide) [h, a 0, a 1, a 2, a 3, a 4, a 5, a 6, a 7, a 8, a 9, d 0, d 1, d 2, d 3, d 4, d 5, d 6, d 7, d 8, d 9, b 5, b 0, b 1, b 2] [h, a 0, a 1, a 2, a 3, a 4, a 5, a 6, a 7, a 8, a 9, d 0, d 1, d 2, d 3, d 4, d 5, d 6, d 7, d 8, d 9, b 5, b 0, b 1, b 2, ja] (fun _ => rfl) rfl (fun _ => rfl) rfl (fun _ => rfl) rfl (fun E9 ce q9 H locs hC9 hP hD hS h7 h8 h9 => ?_) (fun u H locs hk hP hD hS => ?_)
  · skip
    obtain ⟨rfl, hk⟩ := hC9
    · skip
      refine vx_catch (name := "java/lang/IllegalArgumentException") (E := gx_A) hown [] ⟨0, 10, 13, 13⟩ [] htab (fun z hz => absurd hz List.not_mem_nil) (by decide) (by decide) (hts (.classLink RL 13 "java/lang/IllegalArgumentException") (List.mem_of_getElem? (i := 1) rfl)) (va_Nw.use rfl hV.1.1) h7 h8 h9 ?_
      refine lv_astore (lv' := [(4, .ref q9), (0, .ref h), (1, .int y), (2, .int v), (3, .ref ja)]) hx hb dL_advise_13 hl (by decide) rfl (fun ls hl => ?_)
      refine lv_iconst (v := 1) hx hb dL_advise_15 (by decide) ?_
      have hP9 : va_P G.1 vwCl ((wH h (b 5) (a 0) (d 0)) ++ (wO G a (b 5) o) ++ (wO G d (b 5) q) ++ (wS G b z) ++ (wL G ja (gx_if (gc_k2 (gh_iw y 0 120) (gh_iw v 1 80)) (vp_updL jo 0 ((gc_av (fun i => gh_cb o i y) ff f0 n).2).toInt64) jo))) H := by simp only [gx_if_n hk (show ¬ (1 : Int32) = 0 by decide)]; exact hP
      exact W.iret (v := 1) hx hb hr (fun t9 ht hW => ⟨⟨1, q, rfl, hk.symm, gh_hp hP9 ht⟩, hS.F ht⟩) hS.2.2 dL_advise_16
  · skip
    refine lv_i2l (v := ((gc_av (fun i => gh_cb o i y) ff f0 n).2).toInt64) hx hb dL_advise_8 rfl ?_
    refine va_last hx hb hK hP hD hS 25 2 rfl rfl gx_in0 dL_advise_9 (fun H locs hP hD hS => ?_)
    rw [gx_t0] at hP hD
    refine lv_goto (tgt := 17) hx hb dL_advise_10 (by decide) ?_
    refine lv_iconst (v := 0) hx hb dL_advise_17 (by decide) ?_
    have hP9 : va_P G.1 vwCl ((wH h (b 5) (a 0) (d 0)) ++ (wO G a (b 5) o) ++ (wO G d (b 5) u) ++ (wS G b z) ++ (wL G ja (gx_if (gc_k2 (gh_iw y 0 120) (gh_iw v 1 80)) (vp_updL jo 0 ((gc_av (fun i => gh_cb o i y) ff f0 n).2).toInt64) jo))) H := by simp only [gx_if_p hk]; exact hP
    exact W.iret (v := 0) hx hb hr (fun t9 ht hW => ⟨⟨0, u, rfl, hk.symm, gh_hp hP9 ht⟩, hS.F ht⟩) hS.2.2 dL_advise_18
set_option maxHeartbeats 4000000 in
set_option maxRecDepth 100000 in
theorem c_L_wants (l : Launch) (hfl : l.stackTraces = false) (G : gh_G) (sz : Nat) (h : Nat) (a : Nat → Nat) (b : Nat → Nat) (d : Nat → Nat) (o : gh_B) (z : gh_B) (q : gh_B) (n : Nat) (nn : Nat) (F : Int32 → Int32) (y : Int32) (v : Int32) (ja : Nat) (jo : Nat → Int64) (hn : o 10 0 = nI n) (hn16 : n ≤ 16) (hz : z 3 0 = nI nn) (hz32 : nn ≤ 32) (hF : ∀ (q9 : gh_B) (w9 : Int32), gh_go z (gh_sp (gh_to o q9 n) y w9) n nn v.toNatClampNeg 14 0 = F w9) : Met l yL_wants wsL_wants ({ frames := 7, cells := 1, slots := 6, locals := 162 } : Room) (gx_w G [.ref h, .int y, .int v, .ref ja] ((wH h (b 5) (a 0) (d 0)) ++ (wO G a (b 5) o) ++ (wO G d (b 5) q) ++ (wS G b z) ++ (wL G ja jo)) sz) (va_Qi (fun (r9 : Int32) (_ : gh_B) => r9 = gc_k3 (gh_iw y 0 3) (gh_iw v 1 80)) (fun u t9 => va_P G.1 vwCl ((wH h (b 5) (a 0) (d 0)) ++ (wO G a (b 5) o) ++ (wO G d (b 5) u) ++ (wS G b z) ++ (wL G ja (gx_if (gc_k3 (gh_iw y 0 3) (gh_iw v 1 80)) (vp_updL jo 0 (nI (gm_wl F (F 9) 9 0)).toInt64) jo))) t9.heap) (va_A ((wH h (b 5) (a 0) (d 0)) ++ (wO G a (b 5) o) ++ (wO G d (b 5) q) ++ (wS G b z) ++ (wL G ja jo)) sz)) 1 6 (va_A ((wH h (b 5) (a 0) (d 0)) ++ (wO G a (b 5) o) ++ (wO G d (b 5) q) ++ (wS G b z) ++ (wL G ja jo)) sz) := by
  refine gx_ofWH (cc := cL_wants) (maxL := 5) (ret := some .int) (hh := [(0, 10, 13, 21), (0, 10, 17, 13)]) (by decide) rfl ?_
  intro p e s m args below meth c s₁ B hml hv
  obtain ⟨rfl, hsz, hP, hE, hD0, hV, hZ⟩ := hv
  have hx := B.exec
  have hb := B.bytes
  have hr := B.returns
  have hts := atoms_spec (ws := wsL_wants) B.pre
  have hown : s.vm.findClass RL = some m.cls := findClass_of_methodNamed B.named
  have hlocks := B.notSynchronized
  have hK := hE.1
  subst hsz
  have hD := hD0.self (sz := s.heap.size)
  have htab : c.exceptionTable.toList = tableOf [(0, 10, 13, 21), (0, 10, 17, 13)] := vx_table (x := yL_wants) B (hts _ List.mem_cons_self)
  generalize hAe : va_A ((wH h (b 5) (a 0) (d 0)) ++ (wO G a (b 5) o) ++ (wO G d (b 5) q) ++ (wS G b z) ++ (wL G ja jo)) s.heap.size = A at hD hZ ⊢
  have hA : ∀ q : Nat, s.heap.size ≤ q → A q := fun q h => by rw [← hAe]; exact Or.inr h
  have hS : va_S A s.heap s.heap [] := va_S.rf
  have hl := lv_entry ([.ref h, .int y, .int v, .ref ja]) (n := 5) (Nat.le_of_ble_eq_true rfl)
  rw [lg_entry_eq]
  generalize (lg_sl ([.ref h, .int y, .int v, .ref ja]) ++ List.replicate (5 - (lg_sl ([.ref h, .int y, .int v, .ref ja])).length) Slot.unset).toArray = ls at hl ⊢
  have hl : lv_has ls 5 [(0, .ref h), (1, .int y), (2, .int v), (3, .ref ja)] := hl
  refine lv_aload_n hx hb dL_wants_0 rfl (lv_at hl 3 rfl) ?_
  refine lv_iconst (v := 0) hx hb dL_wants_1 (by decide) ?_
  refine lv_aload_n hx hb dL_wants_2 rfl (lv_at hl 0 rfl) ?_
  refine lv_iload_n hx hb dL_wants_3 rfl (lv_at hl 1 rfl) ?_
  refine lv_iload_n hx hb dL_wants_4 rfl (lv_at hl 2 rfl) ?_
  refine gx_cx (wr := wL G ja jo) (ws' := fun u => (wH h (b 5) (a 0) (d 0)) ++ (wO G a (b 5) o) ++ (wO G d (b 5) u) ++ (wS G b z) ++ (wL G ja jo)) (vx_runV (As := [.int y, .int v]) (rest := [.int 0, .ref ja]) ⟨hx, hb, hml, hown, hts⟩ (c_X2_wants l hfl G s.heap.size h a b d o z q n nn F y v hn hn16 hz hz32 hF) (cwV 2 hts gL_wants_X2_wants rfl rfl rfl ⟨rfl, hdS_X2_wants⟩ ⟨Nat.le_of_ble_eq_true rfl, Nat.le_of_ble_eq_true rfl⟩) (gx_wV hE (hP.sub (ws' := (wH h (b 5) (a 0) (d 0)) ++ (wO G a (b 5) o) ++ (wO G d (b 5) q) ++ (wS G b z)) [0, 1, 2, 3, 4, 5, 6, 7, 8, 9, 10, 11, 12, 13, 14, 15, 16, 17, 18, 19, 20, 21, 22, 23, 24] rfl) (hD.sub (ws' := (wH h (b 5) (a 0) (d 0)) ++ (wO G a (b 5) o) ++ (wO G d (b 5) q) ++ (wS G b z)) [0, 1, 2, 3, 4, 5, 6, 7, 8, 9, 10, 11, 12, 13, 14, 15, 16, 17, 18, 19, 20, 21, 22, 23, 24] (by decide) rfl) hV ((hZ.kept hS.2.1).narrow (va_free (wc := (wH h (b 5) (a 0) (d 0)) ++ (wO G a (b 5) o) ++ (wO G d (b 5) q) ++ (wS G b z)) hD hS hA [0, 1, 2, 3, 4, 5, 6, 7, 8, 9, 10, 11, 12, 13, 14, 15, 16, 17, 18, 19, 20, 21, 22, 23, 24] rfl)) (ci := 2) (q0 := 0) rfl rfl) rfl rfl hl.1 rfl (lv_room (Nat.le_of_ble_eq_true rfl)) dL_wants_5 ⟨Nat.le_of_ble_eq_true rfl, Nat.le_of_ble_eq_true rfl⟩) hP hD hS hA [0, 1, 2, 3, 4, 5, 6, 7, 8, 9, 10, 11, 12, 13, 14, 15, 16, 17, 18, 19, 20, 21, 22, 23, 24] [25] [1, 2, 3, 4, 5, 6, 7, 8, 9, 10, 11, 12, 13, 14, 15, 16, 17, 18, 19, 20, 21, 22, 23, 24, 25, 0] rfl rfl (by decide) (by decide) (by decide) [h, a 0, a 1, a 2, a 3, a 4, a 5, a 6, a 7, a 8, a 9, d 0, d 1, d 2, d 3, d 4, d 5, d 6, d 7, d 8, d 9, b 5, b 0, b 1, b 2] [h, a 0, a 1, a 2, a 3, a 4, a 5, a 6, a 7, a 8, a 9, d 0, d 1, d 2, d 3, d 4, d 5, d 6, d 7, d 8, d 9, b 5, b 0, b 1, b 2, ja] (fun _ => rfl) rfl (fun _ => rfl) rfl (fun _ => rfl) rfl (fun E9 ce q9 H locs hC9 hP hD hS h7 h8 h9 => ?_) (fun u H locs hk hP hD hS => ?_)
  · skip
    rcases hC9 with ⟨rfl, hk⟩ | ⟨rfl, hk⟩
    · skip
      refine vx_catch (name := "java/lang/IndexOutOfBoundsException") (E := gx_O) hown [] ⟨0, 10, 13, 21⟩ [⟨0, 10, 17, 13⟩] htab (fun z hz => absurd hz List.not_mem_nil) (by decide) (by decide) (hts (.classLink RL 21 "java/lang/IndexOutOfBoundsException") (List.mem_of_getElem? (i := 1) rfl)) (va_Nw.use rfl hV.1.2.2) h7 h8 h9 ?_
      refine lv_astore (lv' := [(4, .ref q9), (0, .ref h), (1, .int y), (2, .int v), (3, .ref ja)]) hx hb dL_wants_13 hl (by decide) rfl (fun ls hl => ?_)
      refine lv_iconst (v := 1) hx hb dL_wants_15 (by decide) ?_
      have hP9 : va_P G.1 vwCl ((wH h (b 5) (a 0) (d 0)) ++ (wO G a (b 5) o) ++ (wO G d (b 5) q) ++ (wS G b z) ++ (wL G ja (gx_if (gc_k3 (gh_iw y 0 3) (gh_iw v 1 80)) (vp_updL jo 0 (nI (gm_wl F (F 9) 9 0)).toInt64) jo))) H := by simp only [gx_if_n hk (show ¬ (1 : Int32) = 0 by decide)]; exact hP
      exact W.iret (v := 1) hx hb hr (fun t9 ht hW => ⟨⟨1, q, rfl, hk.symm, gh_hp hP9 ht⟩, hS.F ht⟩) hS.2.2 dL_wants_16
    · skip
      refine vx_catch (name := "java/lang/IllegalArgumentException") (E := gx_A) hown [⟨0, 10, 13, 21⟩] ⟨0, 10, 17, 13⟩ [] htab (fun z hz => by
        simp only [List.mem_cons, List.not_mem_nil, or_false] at hz
        subst hz
        · exact Or.inr ⟨by decide, "java/lang/IndexOutOfBoundsException", (hts (.classLink RL 21 "java/lang/IndexOutOfBoundsException") (List.mem_of_getElem? (i := 1) rfl)), hV.2.2.2.1⟩) (by decide) (by decide) (hts (.classLink RL 13 "java/lang/IllegalArgumentException") (List.mem_of_getElem? (i := 2) rfl)) (va_Nw.use rfl hV.1.1) h7 h8 h9 ?_
      refine lv_astore (lv' := [(4, .ref q9), (0, .ref h), (1, .int y), (2, .int v), (3, .ref ja)]) hx hb dL_wants_17 hl (by decide) rfl (fun ls hl => ?_)
      refine lv_iconst (v := 2) hx hb dL_wants_19 (by decide) ?_
      have hP9 : va_P G.1 vwCl ((wH h (b 5) (a 0) (d 0)) ++ (wO G a (b 5) o) ++ (wO G d (b 5) q) ++ (wS G b z) ++ (wL G ja (gx_if (gc_k3 (gh_iw y 0 3) (gh_iw v 1 80)) (vp_updL jo 0 (nI (gm_wl F (F 9) 9 0)).toInt64) jo))) H := by simp only [gx_if_n hk (show ¬ (2 : Int32) = 0 by decide)]; exact hP
      exact W.iret (v := 2) hx hb hr (fun t9 ht hW => ⟨⟨2, q, rfl, hk.symm, gh_hp hP9 ht⟩, hS.F ht⟩) hS.2.2 dL_wants_20
  · skip
    refine lv_i2l (v := (nI (gm_wl F (F 9) 9 0)).toInt64) hx hb dL_wants_8 rfl ?_
    refine va_last hx hb hK hP hD hS 25 2 rfl rfl gx_in0 dL_wants_9 (fun H locs hP hD hS => ?_)
    rw [gx_t0] at hP hD
    refine lv_goto (tgt := 21) hx hb dL_wants_10 (by decide) ?_
    refine lv_iconst (v := 0) hx hb dL_wants_21 (by decide) ?_
    have hP9 : va_P G.1 vwCl ((wH h (b 5) (a 0) (d 0)) ++ (wO G a (b 5) o) ++ (wO G d (b 5) u) ++ (wS G b z) ++ (wL G ja (gx_if (gc_k3 (gh_iw y 0 3) (gh_iw v 1 80)) (vp_updL jo 0 (nI (gm_wl F (F 9) 9 0)).toInt64) jo))) H := by simp only [gx_if_p hk]; exact hP
    exact W.iret (v := 0) hx hb hr (fun t9 ht hW => ⟨⟨0, u, rfl, hk.symm, gh_hp hP9 ht⟩, hS.F ht⟩) hS.2.2 dL_wants_22
