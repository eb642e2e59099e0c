/-! The layer between the kit and the contracts of this claim: one world shape for all methods. -/
abbrev gh_G : Type := va_G × ClassId × ClassId × ClassId
abbrev gh_ty (G : gh_G) : List (ClassId × FieldType) := [(G.2.1, .int), (G.2.2.1, .boolean), (G.2.2.2, .long)]
abbrev gh_B : Type := Nat → Nat → Int32
def gh_st (o : gh_B) (k : Nat) (f : Nat → Int32) : gh_B := fun j => cond (Nat.beq j k) f (o j)
theorem gh_ss (o : gh_B) (k : Nat) (f : Nat → Int32) : gh_st o k f k = f := by simp [gh_st]
theorem gh_sn (o : gh_B) {k j : Nat} (f : Nat → Int32) (h : j ≠ k) : gh_st o k f j = o j := by
  unfold gh_st
  cases hb : Nat.beq j k with
  | false => rfl
  | true => exact absurd (Nat.eq_of_beq_eq_true hb) h
def gh_nM : List (String × Nat × MethodName × String) := [(RX2, 9, yX1_init, RX2), (RX2, 18, yX0_init, RX2), (RX2, 166, yX0_crackedGlasses, RX2), (RX2, 176, yX0_allAir, RX2), (RX2, 179, yX0_pairsBeating, RX2), (RX0, 94, yX2_distance, RX2), (RX0, 60, yX2_isWithin, RX2), (RX2, 50, yX0_hasGlass, RX2), (RX2, 77, yX0_toneOf, RX2), (RX2, 101, yX0_glassesBeatingAgainst, RX2), (RX2, 109, yX0_glassesInRow, RX2), (RX2, 130, yX1_hasNote, RX2), (RX2, 41, yX0_addGlass, RX2), (RX2, 71, yX0_mostDrops, RX2), (RX2, 122, yX1_write, RX2), (RX2, 138, yX1_takeOut, RX2), (RX2, 155, yX0_letGoBy, RX2), (RX0, 115, yX1_beatAt, RX2), (RX2, 184, yX0_fewestDropsFor, RX2), (RX2, 192, yX0_takeOver, RX2), (RX2, 198, yX0_canBeTuned, RX2), (RX2, 226, yX0_tuneTo, RX2), (RX2, 230, yX0_setPump, RX2), (RX4, 25, yX3_init, RX4)]
def gh_nF : List (String × Nat × String × String × String × String) := [(RX2, 144, "GlassHarp$Score", "beats", "[I", RX2), (RX0, 123, "GlassHarp$Score", "beats", "[I", RX2), (RX2, 135, "GlassHarp$Score", "tones", "[I", RX2), (RX0, 126, "GlassHarp$Score", "tones", "[I", RX2), (RX2, 147, "GlassHarp$Score", "forces", "[I", RX2), (RX0, 129, "GlassHarp$Score", "forces", "[I", RX2), (RX2, 127, "GlassHarp$Score", "notes", "I", RX2), (RX0, 120, "GlassHarp$Score", "notes", "I", RX2), (RX2, 114, "GlassHarp$Score", "length", "I", RX2), (RX2, 89, "GlassHarp$Orchestra", "rows", "[I", RX2), (RX2, 92, "GlassHarp$Orchestra", "sizes", "[I", RX2), (RX2, 67, "GlassHarp$Orchestra", "drops", "[I", RX2), (RX2, 61, "GlassHarp$Orchestra", "cracked", "[Z", RX2), (RX2, 95, "GlassHarp$Orchestra", "rings", "[I", RX2), (RX2, 98, "GlassHarp$Orchestra", "plays", "[I", RX2), (RX2, 106, "GlassHarp$Orchestra", "air", "[I", RX2), (RX2, 84, "GlassHarp$Orchestra", "pumps", "[I", RX2), (RX2, 163, "GlassHarp$Orchestra", "glasses", "I", RX2), (RX2, 160, "GlassHarp$Orchestra", "beat", "I", RX2), (RX2, 152, "GlassHarp$Orchestra", "played", "I", RX2), (RX2, 170, "GlassHarp$Orchestra", "inTune", "I", RX2), (RX2, 173, "GlassHarp$Orchestra", "missed", "I", RX2), (RX4, 106, "GlassHarpModel$State", "beat", "I", RX4), (RX4, 100, "GlassHarpModel$State", "played", "I", RX4), (RX4, 113, "GlassHarpModel$State", "tuned", "I", RX4), (RX4, 116, "GlassHarpModel$State", "missed", "I", RX4), (RX4, 85, "GlassHarpModel$State", "air", "[I", RX4), (RX4, 65, "GlassHarpModel$State", "pump", "[I", RX4), (RX4, 53, "GlassHarpModel$State", "drops", "[I", RX4), (RX4, 59, "GlassHarpModel$State", "broken", "[I", RX4), (RX4, 72, "GlassHarpModel$State", "ring", "[I", RX4), (RX4, 75, "GlassHarpModel$State", "times", "[I", RX4), (RX3, 94, "GlassHarpModel", "length", "I", RX4), (RX3, 88, "GlassHarpModel", "notes", "I", RX4), (RX3, 91, "GlassHarpModel", "score", "[I", RX4), (RX3, 73, "GlassHarpModel", "glasses", "I", RX4), (RX3, 79, "GlassHarpModel", "row", "[I", RX4), (RX3, 57, "GlassHarpModel", "size", "[I", RX4)]
def gh_nest (U : State) : Prop := (∀ q ∈ gh_nM, va_Nw (.methodLinkNest q.1 q.2.1 q.2.2.1 q.2.2.2) U) ∧ ∀ q ∈ gh_nF, va_Nw (.fieldLinkNest q.1 q.2.1 q.2.2.1 q.2.2.2.1 q.2.2.2.2.1 q.2.2.2.2.2) U
theorem gh_nest.warm {s U : State} (hW : s.WarmedH U.vm) (h : gh_nest s) : gh_nest U := ⟨fun q hq => va_Nw.warmM hW (h.1 q hq), fun q hq => va_Nw.warmF hW (h.2 q hq)⟩
theorem gh_nest.same {u U : State} (hv : u.vm = U.vm) (h : gh_nest u) : gh_nest U := ⟨fun q hq => va_Nw.same rfl hv (h.1 q hq), fun q hq => va_Nw.same rfl hv (h.2 q hq)⟩
def gh_E (G : gh_G) (U : State) : Prop := va_K G.1 vwCl (gh_ty G) U ∧ gh_nest U
theorem gh_E.warm {G : gh_G} {s U : State} (hW : s.WarmedH U.vm) (h : gh_E G s) : gh_E G U := ⟨va_K.moved hW.alike h.1, h.2.warm hW⟩
theorem gh_E.same {G : gh_G} {u U : State} (hv : u.vm = U.vm) (h : gh_E G u) : gh_E G U := ⟨va_K.moved (u := u) (U := U) (by rw [hv]; exact Vm.Alike.refl U.vm) h.1, h.2.same hv⟩
/-- the start of a method that only reads: its world, what the tables say -/
def gh_r (G : gh_G) (av : List Value) (ws : va_W) : Array Value → State → Prop := va_Pc av (fun U => va_P G.1 vwCl ws U.heap ∧ gh_E G U)
theorem gh_rb {G : gh_G} {av : List Value} {ws : va_W} : FrameBlind (gh_r G av ws) := fun a U g mk q => ⟨q.1, q.2.1, q.2.2.same rfl⟩
theorem gh_rS {G : gh_G} {s : State} {H : Heap} {As : List Value} {ws : va_W} (hE : gh_E G s) (hP : va_P G.1 vwCl ws H) : PreS s H (gh_r G As ws) As := ⟨gh_rb, fun U hU hW => ⟨rfl, by rw [hU]; exact hP, hE.warm hW⟩⟩
theorem gh_rV {G : gh_G} {s : State} {H : Heap} {As : List Value} {ws : va_W} {C : String} {T : u_T} {N ci q0 : Nat} {b : Nat} {fs : List Value} (hE : gh_E G s) (hP : va_P G.1 vwCl ws H) (hc : vwCl[ci]? = some (C, T, N)) (he : ws[q0]? = some (b, .inr (ci, fs))) : PreV s H C b (gh_r G (.ref b :: As) ws) As := ⟨gh_rb, va_recv hE.1 hP hc he, fun U hU hW => ⟨rfl, by rw [hU]; exact hP, hE.warm hW⟩⟩
/-- the start of a method that writes: its world's cells lie apart -/
def gh_w (G : gh_G) (av : List Value) (ws : va_W) (sz : Nat) : Array Value → State → Prop := va_Pc av (fun U => U.heap.size = sz ∧ va_P G.1 vwCl ws U.heap ∧ gh_E G U ∧ va_D (fun _ => True) ws)
theorem gh_wb {G : gh_G} {av : List Value} {ws : va_W} {sz : Nat} : FrameBlind (gh_w G av ws sz) := fun a U g mk q => ⟨q.1, q.2.1, q.2.2.1, q.2.2.2.1.same rfl, q.2.2.2.2⟩
theorem gh_wS {G : gh_G} {s : State} {H : Heap} {As : List Value} {ws : va_W} {A : Nat → Prop} (hE : gh_E G s) (hP : va_P G.1 vwCl ws H) (hD : va_D A ws) : PreS s H (gh_w G As ws H.size) As := ⟨gh_wb, fun U hU hW => ⟨rfl, by rw [hU], by rw [hU]; exact hP, hE.warm hW, hD.weaken (fun _ _ _ _ => trivial)⟩⟩
theorem gh_wV {G : gh_G} {s : State} {H : Heap} {As : List Value} {ws : va_W} {A : Nat → Prop} {C : String} {T : u_T} {N ci q0 : Nat} {b : Nat} {fs : List Value} (hE : gh_E G s) (hP : va_P G.1 vwCl ws H) (hD : va_D A ws) (hc : vwCl[ci]? = some (C, T, N)) (he : ws[q0]? = some (b, .inr (ci, fs))) : PreV s H C b (gh_w G (.ref b :: As) ws H.size) As := ⟨gh_wb, va_recv hE.1 hP hc he, fun U hU hW => ⟨rfl, by rw [hU], by rw [hU]; exact hP, hE.warm hW, hD.weaken (fun _ _ _ _ => trivial)⟩⟩
theorem gh_Dsame {A : Nat → Prop} {ws w1 : va_W} (h : va_D A ws) (e : w1.map (fun q => q.1) = ws.map (fun q => q.1)) : va_D A w1 := by
  have key : ∀ (k : Nat) (q : Nat × va_E), w1[k]? = some q → ∃ q0 : Nat × va_E, ws[k]? = some q0 ∧ q0.1 = q.1 := by
    intro k q hk
    have h1 : (w1.map (fun q => q.1))[k]? = some q.1 := by rw [List.getElem?_map, hk]; rfl
    rw [e, List.getElem?_map] at h1
    cases h2 : ws[k]? with
    | none => rw [h2] at h1; cases h1
    | some q0 => rw [h2] at h1; exact ⟨q0, rfl, Option.some.inj h1⟩
  refine ⟨fun i j p q hi hj hpq => ?_, fun k q hk => ?_⟩
  · obtain ⟨p0, h1, h2⟩ := key i p hi
    obtain ⟨q0, h3, h4⟩ := key j q hj
    exact h.1 i j p0 q0 h1 h3 (h2.trans (hpq.trans h4.symm))
  · obtain ⟨q0, h1, h2⟩ := key k q hk
    rw [← h2]
    exact h.2 k q0 h1
theorem gh_loop {n i0 : Nat} (h : i0 ≤ n) {P : Nat → Prop} (h0 : P n) (hs : ∀ i, i0 ≤ i → i < n → P (i + 1) → P i) : P i0 := by
  have key : ∀ d i, i + d = n → i0 ≤ i → P i := by
    intro d
    induction d with
    | zero => intro i hi _; have e : i = n := by omega
              rw [e]; exact h0
    | succ d ih => intro i hi h1; exact hs i h1 (by omega) (ih (i + 1) (by omega) (by omega))
  exact key (n - i0) i0 (by omega) (Nat.le_refl _)
theorem gh_z01 (c : Prop) [Decidable c] : narrow .boolean (.int (if c then 1 else 0)) = .int (if c then 1 else 0) := by split <;> rfl
section GHC
variable {p : Program} {l : Launch} {e : Env} {R : Room} {s : State} {m : MethodId} {args : Array Value} {below : List Frame} {meth : Method} {c : Code} {H : Heap} {locs : List Loc} {cells slots : Nat} {Q : State → Prop}
variable {pc : Nat} {ls : Array Slot} {rest st0 : List Value} {a : Array Value} {A0 A1 : Nat → Prop} {H0 : Heap} {mc ms : Nat} {free : Addr → Prop}
/-- a call that only reads and answers the number v -/
theorem gh_ci {v : Int32} (hr : va_Run p l e R s m args below meth c H locs cells slots 0 0 (F0 m pc ls st0) rest (vp_Si (fun r => r = v) a) (fun _ => False))
    (kk : W p l e R s m args below meth c H locs cells slots Q (F0 m (pc + 3) ls (.int v :: rest))) : W p l e R s m args below meth c H locs cells slots Q (F0 m pc ls st0) := by
  intro T hT X
  obtain ⟨w, st₀, t, T', L, h0, X', hL, e1, e2, ⟨r, hv, hp, hh⟩, st⟩ := hr T hT X
  cases hv
  subst hp
  obtain ⟨t2, a1, b1⟩ := kk T' (by rw [e1, hh, h0]) (Stand.forget X' (fun q h => (hL q h).elim))
  exact ⟨t2, st t2 a1, b1⟩
theorem gh_cl {v : Int64} (hr : va_Run p l e R s m args below meth c H locs cells slots 0 0 (F0 m pc ls st0) rest (vp_Sl (fun r => r = v) a) (fun _ => False))
    (kk : W p l e R s m args below meth c H locs cells slots Q (F0 m (pc + 3) ls (.long v :: rest))) : W p l e R s m args below meth c H locs cells slots Q (F0 m pc ls st0) := by
  intro T hT X
  obtain ⟨w, st₀, t, T', L, h0, X', hL, e1, e2, ⟨r, hv, hp, hh⟩, st⟩ := hr T hT X
  cases hv
  subst hp
  obtain ⟨t2, a1, b1⟩ := kk T' (by rw [e1, hh, h0]) (Stand.forget X' (fun q h => (hL q h).elim))
  exact ⟨t2, st t2 a1, b1⟩
/-- behind a call that writes: the world in its old order, the called part new -/
theorem gh_join {A0 : Nat → Prop} {D : va_G} {cl : List vw_C} {ws wc wr w1 ws' : va_W} {H H1 : Heap} (hP : va_P D cl ws H) (hD : va_D A0 ws) (isC isR pm : List Nat) (hC : isC.map (fun i => ws[i]?) = wc.map some) (hR : isR.map (fun i => ws[i]?) = wr.map some) (hn : va_nd isR = true) (hnc : va_nd isC = true) (hdis : ∀ i ∈ isR, i ∉ isC)
    (hk : ∀ q : Nat, q < H.size → ¬ va_A wc H.size q → H1[q]? = H[q]?) (hF : ∀ q, va_A wc H.size q → A0 q) (hP1 : va_P D cl w1 H1) (ad ad2 : List Nat) (e1 : w1.map (fun q => q.1) = ad) (e1' : wc.map (fun q => q.1) = ad) (hpm : pm.filterMap (fun i => (wr ++ w1)[i]?) = ws') (e2 : ws'.map (fun q => q.1) = ad2) (e2' : ws.map (fun q => q.1) = ad2) : va_P D cl ws' H1 ∧ va_D A0 ws' :=
  ⟨(va_join hP hD isC isR hC hR hn hdis hk hF hP1 (gh_Dsame (hD.sub isC hnc hC).self (e1.trans e1'.symm))).1.sub pm hpm, gh_Dsame hD (e2.trans e2'.symm)⟩
/-- a call that writes and answers nothing -/
theorem gh_cv {G : gh_G} {ws wc wr w1 ws' : va_W} (hr : va_Run p l e R s m args below meth c H locs cells slots mc ms (F0 m pc ls st0) rest (va_Qv (fun _ : Unit => True) (fun _ t => va_P G.1 vwCl w1 t.heap) (va_A wc H.size) a) (va_A wc H.size)) (hP : va_P G.1 vwCl ws H) (hD : va_D A0 ws) (hS : va_S A0 H0 H locs) (hA : ∀ q, H0.size ≤ q → A0 q)
    (isC isR pm : List Nat) (hC : isC.map (fun i => ws[i]?) = wc.map some) (hR : isR.map (fun i => ws[i]?) = wr.map some) (hn : va_nd isR = true) (hnc : va_nd isC = true) (hdis : ∀ i ∈ isR, i ∉ isC) (ad ad2 : List Nat) (e1 : w1.map (fun q => q.1) = ad) (e1' : wc.map (fun q => q.1) = ad) (hpm : pm.filterMap (fun i => (wr ++ w1)[i]?) = ws') (e2 : ws'.map (fun q => q.1) = ad2) (e2' : ws.map (fun q => q.1) = ad2)
    (kk : ∀ (H1 : Heap) (locs1 : List Loc), va_P G.1 vwCl ws' H1 → va_D A0 ws' → va_S A0 H0 H1 locs1 → W p l e R s m args below meth c H1 locs1 (cells + mc) (slots + ms) Q (F0 m (pc + 3) ls rest)) : W p l e R s m args below meth c H locs cells slots Q (F0 m pc ls st0) := by
  have hF := va_free (wc := wc) hD hS hA isC hC
  refine va_callv hr hS (fun q _ h => hF q h) hF (fun u t H1 locs1 ht hvm hw hB hz1 hk1 hS1 => ?_)
  rw [ht] at hB
  obtain ⟨hP', hD'⟩ := gh_join hP hD isC isR pm hC hR hn hnc hdis hk1 hF hB ad ad2 e1 e1' hpm e2 e2'
  exact kk H1 locs1 hP' hD' hS1
/-- a call that writes and answers the number v -/
theorem gh_cw {G : gh_G} {v : Int32} {ws wc wr w1 ws' : va_W} (hr : va_Run p l e R s m args below meth c H locs cells slots mc ms (F0 m pc ls st0) rest (va_Qi (fun (r : Int32) (_ : Unit) => r = v) (fun _ t => va_P G.1 vwCl w1 t.heap) (va_A wc H.size) a) (va_A wc H.size)) (hP : va_P G.1 vwCl ws H) (hD : va_D A0 ws) (hS : va_S A0 H0 H locs) (hA : ∀ q, H0.size ≤ q → A0 q)
    (isC isR pm : List Nat) (hC : isC.map (fun i => ws[i]?) = wc.map some) (hR : isR.map (fun i => ws[i]?) = wr.map some) (hn : va_nd isR = true) (hnc : va_nd isC = true) (hdis : ∀ i ∈ isR, i ∉ isC) (ad ad2 : List Nat) (e1 : w1.map (fun q => q.1) = ad) (e1' : wc.map (fun q => q.1) = ad) (hpm : pm.filterMap (fun i => (wr ++ w1)[i]?) = ws') (e2 : ws'.map (fun q => q.1) = ad2) (e2' : ws.map (fun q => q.1) = ad2)
    (kk : ∀ (H1 : Heap) (locs1 : List Loc), va_P G.1 vwCl ws' H1 → va_D A0 ws' → va_S A0 H0 H1 locs1 → W p l e R s m args below meth c H1 locs1 (cells + mc) (slots + ms) Q (F0 m (pc + 3) ls (.int v :: rest))) : W p l e R s m args below meth c H locs cells slots Q (F0 m pc ls st0) := by
  have hF := va_free (wc := wc) hD hS hA isC hC
  refine va_calli hr hS (fun q _ h => hF q h) hF (fun r u t H1 locs1 ht hvm hw hB hz1 hk1 hS1 => ?_)
  subst hw
  rw [ht] at hB
  obtain ⟨hP', hD'⟩ := gh_join hP hD isC isR pm hC hR hn hnc hdis hk1 hF hB ad ad2 e1 e1' hpm e2 e2'
  exact kk H1 locs1 hP' hD' hS1
/-- the same, with a part behind it that is not told -/
theorem gh_cve {G : gh_G} {ws wc wr : va_W} {w1 ws' : gh_B → va_W} (hr : va_Run p l e R s m args below meth c H locs cells slots mc ms (F0 m pc ls st0) rest (va_Qv (fun _ : gh_B => True) (fun u t => va_P G.1 vwCl (w1 u) t.heap) (va_A wc H.size) a) (va_A wc H.size)) (hP : va_P G.1 vwCl ws H) (hD : va_D A0 ws) (hS : va_S A0 H0 H locs) (hA : ∀ q, H0.size ≤ q → A0 q)
    (isC isR pm : List Nat) (hC : isC.map (fun i => ws[i]?) = wc.map some) (hR : isR.map (fun i => ws[i]?) = wr.map some) (hn : va_nd isR = true) (hnc : va_nd isC = true) (hdis : ∀ i ∈ isR, i ∉ isC) (ad ad2 : List Nat) (e1 : ∀ u, (w1 u).map (fun q => q.1) = ad) (e1' : wc.map (fun q => q.1) = ad) (hpm : ∀ u, pm.filterMap (fun i => (wr ++ w1 u)[i]?) = ws' u) (e2 : ∀ u, (ws' u).map (fun q => q.1) = ad2) (e2' : ws.map (fun q => q.1) = ad2)
    (kk : ∀ (u : gh_B) (H1 : Heap) (locs1 : List Loc), va_P G.1 vwCl (ws' u) H1 → va_D A0 (ws' u) → va_S A0 H0 H1 locs1 → W p l e R s m args below meth c H1 locs1 (cells + mc) (slots + ms) Q (F0 m (pc + 3) ls rest)) : W p l e R s m args below meth c H locs cells slots Q (F0 m pc ls st0) := by
  have hF := va_free (wc := wc) hD hS hA isC hC
  refine va_callv hr hS (fun q _ h => hF q h) hF (fun u t H1 locs1 ht hvm hw hB hz1 hk1 hS1 => ?_)
  rw [ht] at hB
  obtain ⟨hP', hD'⟩ := gh_join hP hD isC isR pm hC hR hn hnc hdis hk1 hF hB ad ad2 (e1 u) e1' (hpm u) (e2 u) e2'
  exact kk u H1 locs1 hP' hD' hS1
theorem gh_cwe {G : gh_G} {v : Int32} {ws wc wr : va_W} {w1 ws' : gh_B → va_W} (hr : va_Run p l e R s m args below meth c H locs cells slots mc ms (F0 m pc ls st0) rest (va_Qi (fun (r : Int32) (_ : gh_B) => r = v) (fun u t => va_P G.1 vwCl (w1 u) t.heap) (va_A wc H.size) a) (va_A wc H.size)) (hP : va_P G.1 vwCl ws H) (hD : va_D A0 ws) (hS : va_S A0 H0 H locs) (hA : ∀ q, H0.size ≤ q → A0 q)
    (isC isR pm : List Nat) (hC : isC.map (fun i => ws[i]?) = wc.map some) (hR : isR.map (fun i => ws[i]?) = wr.map some) (hn : va_nd isR = true) (hnc : va_nd isC = true) (hdis : ∀ i ∈ isR, i ∉ isC) (ad ad2 : List Nat) (e1 : ∀ u, (w1 u).map (fun q => q.1) = ad) (e1' : wc.map (fun q => q.1) = ad) (hpm : ∀ u, pm.filterMap (fun i => (wr ++ w1 u)[i]?) = ws' u) (e2 : ∀ u, (ws' u).map (fun q => q.1) = ad2) (e2' : ws.map (fun q => q.1) = ad2)
    (kk : ∀ (u : gh_B) (H1 : Heap) (locs1 : List Loc), va_P G.1 vwCl (ws' u) H1 → va_D A0 (ws' u) → va_S A0 H0 H1 locs1 → W p l e R s m args below meth c H1 locs1 (cells + mc) (slots + ms) Q (F0 m (pc + 3) ls (.int v :: rest))) : W p l e R s m args below meth c H locs cells slots Q (F0 m pc ls st0) := by
  have hF := va_free (wc := wc) hD hS hA isC hC
  refine va_calli hr hS (fun q _ h => hF q h) hF (fun r u t H1 locs1 ht hvm hw hB hz1 hk1 hS1 => ?_)
  subst hw
  rw [ht] at hB
  obtain ⟨hP', hD'⟩ := gh_join hP hD isC isR pm hC hR hn hnc hdis hk1 hF hB ad ad2 (e1 u) e1' (hpm u) (e2 u) e2'
  exact kk u H1 locs1 hP' hD' hS1
theorem gh_cwl {G : gh_G} {v : Int64} {ws wc wr w1 ws' : va_W} (hr : va_Run p l e R s m args below meth c H locs cells slots mc ms (F0 m pc ls st0) rest (va_Ql (fun (r : Int64) (_ : Unit) => r = v) (fun _ t => va_P G.1 vwCl w1 t.heap) (va_A wc H.size) a) (va_A wc H.size)) (hP : va_P G.1 vwCl ws H) (hD : va_D A0 ws) (hS : va_S A0 H0 H locs) (hA : ∀ q, H0.size ≤ q → A0 q)
    (isC isR pm : List Nat) (hC : isC.map (fun i => ws[i]?) = wc.map some) (hR : isR.map (fun i => ws[i]?) = wr.map some) (hn : va_nd isR = true) (hnc : va_nd isC = true) (hdis : ∀ i ∈ isR, i ∉ isC) (ad ad2 : List Nat) (e1 : w1.map (fun q => q.1) = ad) (e1' : wc.map (fun q => q.1) = ad) (hpm : pm.filterMap (fun i => (wr ++ w1)[i]?) = ws') (e2 : ws'.map (fun q => q.1) = ad2) (e2' : ws.map (fun q => q.1) = ad2)
    (kk : ∀ (H1 : Heap) (locs1 : List Loc), va_P G.1 vwCl ws' H1 → va_D A0 ws' → va_S A0 H0 H1 locs1 → W p l e R s m args below meth c H1 locs1 (cells + mc) (slots + ms) Q (F0 m (pc + 3) ls (.long v :: rest))) : W p l e R s m args below meth c H locs cells slots Q (F0 m pc ls st0) := by
  have hF := va_free (wc := wc) hD hS hA isC hC
  refine va_calll hr hS (fun q _ h => hF q h) hF (fun r u t H1 locs1 ht hvm hw hB hz1 hk1 hS1 => ?_)
  subst hw
  rw [ht] at hB
  obtain ⟨hP', hD'⟩ := gh_join hP hD isC isR pm hC hR hn hnc hdis hk1 hF hB ad ad2 e1 e1' hpm e2 e2'
  exact kk H1 locs1 hP' hD' hS1
end GHC
section GHL
variable {p : Program} {l : Launch} {e : Env} {R : Room} {s : State} {m : MethodId} {args : Array Value} {below : List Frame} {meth : Method} {c : Code} {H : Heap} {locs : List Loc} {cells slots : Nat} {Q : State → Prop}
variable {cc : ByteArray} {pc : Nat} {ls : Array Slot} {rest : List Value} {D : va_G} {cl : List vw_C} {A : Nat → Prop} {a : Nat} {tys : List (ClassId × FieldType)} {ws : va_W} {H0 : Heap}
/-- reading a row at a place that is a number -/
theorem gh_ia (hexec : p.tables.exec = Jvm.exec) (hb : c.code = cc) (hK : va_K D cl tys s) (hP : va_P D cl ws H) (q0 t0 : Nat) {cA : ClassId} {n : Nat} {f : Nat → Int32} (ha : ws[q0]? = some (a, .inl (cA, n, .inl f))) (ht : tys[t0]? = some (cA, .int)) {i : Int32} (j : Nat) (hi : i = nI j) (hj : j < n) (hn : n < 2 ^ 31) (hdg : decode cc pc = .ok (.iaload, 1))
    (kk : W p l e R s m args below meth c H locs cells slots Q (F0 m (pc + 1) ls (.int (f j) :: rest))) : W p l e R s m args below meth c H locs cells slots Q (F0 m pc ls (.int i :: .ref a :: rest)) := by
  subst hi
  refine va_iald hexec hb hK hP q0 t0 ha ht (vp_in_nI hj hn) hdg ?_
  rw [nI_clamp (Nat.lt_trans hj hn)]
  exact kk
theorem gh_za (hexec : p.tables.exec = Jvm.exec) (hb : c.code = cc) (hK : va_K D cl tys s) (hP : va_P D cl ws H) (q0 t0 : Nat) {cA : ClassId} {n : Nat} {f : Nat → Int32} (ha : ws[q0]? = some (a, .inl (cA, n, .inl f))) (ht : tys[t0]? = some (cA, .boolean)) {i : Int32} (j : Nat) (hi : i = nI j) (hj : j < n) (hn : n < 2 ^ 31) (hdg : decode cc pc = .ok (.baload, 1))
    (kk : W p l e R s m args below meth c H locs cells slots Q (F0 m (pc + 1) ls (.int (f j) :: rest))) : W p l e R s m args below meth c H locs cells slots Q (F0 m pc ls (.int i :: .ref a :: rest)) := by
  subst hi
  refine va_zald hexec hb hK hP q0 t0 ha ht (vp_in_nI hj hn) hdg ?_
  rw [nI_clamp (Nat.lt_trans hj hn)]
  exact kk
/-- writing a row at a place that is a number; the world behind it has a name -/
theorem gh_is {ws' : va_W} (hexec : p.tables.exec = Jvm.exec) (hb : c.code = cc) (hK : va_K D cl tys s) (hP : va_P D cl ws H) (hD : va_D A ws) (hS : va_S A H0 H locs) (q0 t0 : Nat) {cA : ClassId} {n : Nat} {f : Nat → Int32} (ha : ws[q0]? = some (a, .inl (cA, n, .inl f))) (ht : tys[t0]? = some (cA, .int)) {i : Int32} {x : Int32} (j : Nat) (hi : i = nI j) (hj : j < n) (hn : n < 2 ^ 31) (hdg : decode cc pc = .ok (.iastore, 1)) (hw : ws.set q0 (a, .inl (cA, n, .inl (upd f j x))) = ws')
    (kk : ∀ (H1 : Heap) (locs1 : List Loc), va_P D cl ws' H1 → va_D A ws' → va_S A H0 H1 locs1 → W p l e R s m args below meth c H1 locs1 cells slots Q (F0 m (pc + 1) ls rest)) : W p l e R s m args below meth c H locs cells slots Q (F0 m pc ls (.int x :: .int i :: .ref a :: rest)) := by
  subst hi
  refine va_iast hexec hb hK hP hD hS q0 t0 ha ht (vp_in_nI hj hn) hdg (fun H1 locs1 h1 h2 h3 => ?_)
  rw [nI_clamp (Nat.lt_trans hj hn), hw] at h1 h2
  exact kk H1 locs1 h1 h2 h3
theorem gh_zs {ws' : va_W} (hexec : p.tables.exec = Jvm.exec) (hb : c.code = cc) (hK : va_K D cl tys s) (hP : va_P D cl ws H) (hD : va_D A ws) (hS : va_S A H0 H locs) (q0 t0 : Nat) {cA : ClassId} {n : Nat} {f : Nat → Int32} (ha : ws[q0]? = some (a, .inl (cA, n, .inl f))) (ht : tys[t0]? = some (cA, .boolean)) {i : Int32} {x : Int32} (j : Nat) (hi : i = nI j) (hj : j < n) (hn : n < 2 ^ 31) (hdg : decode cc pc = .ok (.bastore, 1)) {y : Int32} (hy : vp_nar .boolean x = y) (hw : ws.set q0 (a, .inl (cA, n, .inl (upd f j y))) = ws')
    (kk : ∀ (H1 : Heap) (locs1 : List Loc), va_P D cl ws' H1 → va_D A ws' → va_S A H0 H1 locs1 → W p l e R s m args below meth c H1 locs1 cells slots Q (F0 m (pc + 1) ls rest)) : W p l e R s m args below meth c H locs cells slots Q (F0 m pc ls (.int x :: .int i :: .ref a :: rest)) := by
  subst hi
  refine va_zast hexec hb hK hP hD hS q0 t0 ha ht (vp_in_nI hj hn) hdg (fun H1 locs1 h1 h2 h3 => ?_)
  rw [nI_clamp (Nat.lt_trans hj hn), hy, hw] at h1 h2
  exact kk H1 locs1 h1 h2 h3
/-- a copy of part of a row, at places that are numbers -/
theorem gh_cp {ws' : va_W} (hexec : p.tables.exec = Jvm.exec) (hb : c.code = cc) (hml : c.maxLocals = ls.size) {own : String} {index : Nat} (hown : s.vm.findClass own = some m.cls) (hlink : (Cond.methodLink own index arraycopyName).before args s = true) (hnat : (Cond.native arraycopyName).before args s = true) (hstat : (Cond.static arraycopyName).before args s = true) (hini : (Cond.initialized "java/lang/System").before args s = true)
    (hK : va_K D cl tys s) (hP : va_P D cl ws H) (hD : va_D A ws) (hS : va_S A H0 H locs) (q0 q1 t0 t1 : Nat) {a0 : Nat} {c0 c1 : ClassId} {n0 n1 : Nat} {f g : Nat → Int32} (ha0 : ws[q0]? = some (a0, .inl (c0, n0, .inl f))) (ha1 : ws[q1]? = some (a, .inl (c1, n1, .inl g))) (ht0 : tys[t0]? = some (c0, .int)) (ht1 : tys[t1]? = some (c1, .int))
    {sp dp n : Int32} (i : Nat) (hi : sp = nI i) (j : Nat) (hj : dp = nI j) (k : Nat) (hk : n = nI k) (h4 : i + k ≤ n0) (h5 : j + k ≤ n1) (hn0 : n0 < 2 ^ 31) (hn1 : n1 < 2 ^ 31) (hframes : 1 ≤ R.frames) (hlocals : (rest.map fun v => v.category).sum + (nativeFrameWords "java/lang/System" "arraycopy" 5 + 11) ≤ R.locals) (hdg : decode cc pc = .ok (.invokestatic index, 3)) (hw : ws.set q1 (a, .inl (c1, n1, .inl (va_cpy f g i j k))) = ws')
    (kk : ∀ (H1 : Heap) (locs1 : List Loc), va_P D cl ws' H1 → va_D A ws' → va_S A H0 H1 locs1 → W p l e R s m args below meth c H1 locs1 cells slots Q (F0 m (pc + 3) ls rest)) : W p l e R s m args below meth c H locs cells slots Q (F0 m pc ls (.int n :: .int dp :: .ref a :: .int sp :: .ref a0 :: rest)) := by
  subst hi; subst hj; subst hk
  have bi : i < 2 ^ 31 := by omega
  have bj : j < 2 ^ 31 := by omega
  have bk : k < 2 ^ 31 := by omega
  refine va_copyi (ty := .int) hexec hb hml hown hlink hnat hstat hini hK hP hD hS q0 q1 t0 t1 ha0 ha1 ht0 ht1 rfl (nI_pos bi) (nI_pos bj) (nI_pos bk) (by rw [nI_clamp bi, nI_clamp bk]; exact h4) (by rw [nI_clamp bj, nI_clamp bk]; exact h5) (fun _ _ => rfl) hframes hlocals hdg (fun H1 locs1 h1 h2 h3 => ?_)
  rw [nI_clamp bi, nI_clamp bj, nI_clamp bk, hw] at h1 h2
  exact kk H1 locs1 h1 h2 h3
theorem gh_vv {x y : Int32} (h : x = y) (kk : W p l e R s m args below meth c H locs cells slots Q (F0 m pc ls (.int y :: rest))) : W p l e R s m args below meth c H locs cells slots Q (F0 m pc ls (.int x :: rest)) := by
  rw [h]; exact kk
end GHL
section GHN
variable {p : Program} {l : Launch} {e : Env} {R : Room} {s : State} {m : MethodId} {args : Array Value} {below : List Frame} {meth : Method} {c : Code} {H : Heap} {locs : List Loc} {cells slots : Nat} {Q : State → Prop}
/-- a new row of numbers: its kind is the one that is known -/
theorem gh_na {cc : ByteArray} {pc : Nat} {ls : Array Slot} {rest : List Value} {A : Nat → Prop} {ws : va_W} {H0 : Heap} {G : gh_G} (hexec : p.tables.exec = Jvm.exec) (hb : c.code = cc) (harr : (Cond.arrayClass .int).before args s = true) (hK : va_K G.1 vwCl (gh_ty G) s) (hP : va_P G.1 vwCl ws H) (hD : va_D A ws) (hS : va_S A H0 H locs) (hA : ∀ q, H0.size ≤ q → A q)
    {n : Int32} (N' : Nat) (hn : n = nI N') (hN : N' < 1000) (hcells : cells + 1 ≤ R.cells) (hslots : slots + N' ≤ R.slots) (hdg : decode cc pc = .ok (.newarray .int, 2))
    (kk : ∀ (q : Nat) (H1 : Heap), va_P G.1 vwCl (ws ++ [(q, .inl (G.2.1, N', .inl (fun _ => 0)))]) H1 → va_D A (ws ++ [(q, .inl (G.2.1, N', .inl (fun _ => 0)))]) → va_S A H0 H1 locs →
      W p l e R s m args below meth c H1 locs (cells + 1) (slots + N') Q (F0 m (pc + 2) ls (.ref q :: rest))) : W p l e R s m args below meth c H locs cells slots Q (F0 m pc ls (.int n :: rest)) := by
  subst hn
  refine va_newa (atype := .int) (a0 := (N', .inl (fun _ => 0))) hexec hb harr rfl hK hP hD hS hA (fun cA => rfl) (nI_pos (by omega)) (nI_clamp (by omega)) (by show N' * 4 ≤ _; omega) hcells hslots hdg (fun q cA H1 hK1 h1 h2 h3 => ?_)
  have e1 : s.vm.findClass ("[" ++ FieldType.int.toString) = some cA := (hK1.2 3 (cA, .int) rfl).2
  have e2 : s.vm.findClass ("[" ++ FieldType.int.toString) = some G.2.1 := (hK.2 0 (G.2.1, .int) rfl).2
  cases Option.some.inj (e1.symm.trans e2)
  exact kk q H1 h1 h2 h3
theorem gh_naz {cc : ByteArray} {pc : Nat} {ls : Array Slot} {rest : List Value} {A : Nat → Prop} {ws : va_W} {H0 : Heap} {G : gh_G} (hexec : p.tables.exec = Jvm.exec) (hb : c.code = cc) (harr : (Cond.arrayClass .boolean).before args s = true) (hK : va_K G.1 vwCl (gh_ty G) s) (hP : va_P G.1 vwCl ws H) (hD : va_D A ws) (hS : va_S A H0 H locs) (hA : ∀ q, H0.size ≤ q → A q)
    {n : Int32} (N' : Nat) (hn : n = nI N') (hN : N' < 1000) (hcells : cells + 1 ≤ R.cells) (hslots : slots + N' ≤ R.slots) (hdg : decode cc pc = .ok (.newarray .boolean, 2))
    (kk : ∀ (q : Nat) (H1 : Heap), va_P G.1 vwCl (ws ++ [(q, .inl (G.2.2.1, N', .inl (fun _ => 0)))]) H1 → va_D A (ws ++ [(q, .inl (G.2.2.1, N', .inl (fun _ => 0)))]) → va_S A H0 H1 locs →
      W p l e R s m args below meth c H1 locs (cells + 1) (slots + N') Q (F0 m (pc + 2) ls (.ref q :: rest))) : W p l e R s m args below meth c H locs cells slots Q (F0 m pc ls (.int n :: rest)) := by
  subst hn
  refine va_newa (atype := .boolean) (a0 := (N', .inl (fun _ => 0))) hexec hb harr rfl hK hP hD hS hA (fun cA => rfl) (nI_pos (by omega)) (nI_clamp (by omega)) (by show N' * 1 ≤ _; omega) hcells hslots hdg (fun q cA H1 hK1 h1 h2 h3 => ?_)
  have e1 : s.vm.findClass ("[" ++ FieldType.boolean.toString) = some cA := (hK1.2 3 (cA, .boolean) rfl).2
  have e2 : s.vm.findClass ("[" ++ FieldType.boolean.toString) = some G.2.2.1 := (hK.2 1 (G.2.2.1, .boolean) rfl).2
  cases Option.some.inj (e1.symm.trans e2)
  exact kk q H1 h1 h2 h3
end GHN
theorem gh_hp {D : va_G} {ws : va_W} {t : State} {H : Heap} (hP : va_P D vwCl ws H) (ht : t.heap = H) : va_P D vwCl ws t.heap := by rw [ht]; exact hP
theorem gh_end {A : Nat → Prop} {s t : State} {H : Heap} {locs : List Loc} {D : va_G} {ws : va_W} (hP : va_P D vwCl ws H) (hS : va_S A s.heap H locs) (ht : t.heap = H) : va_P D vwCl ws t.heap ∧ va_F A s t := ⟨by rw [ht]; exact hP, hS.F ht⟩
/-! the worlds: an orchestra, a score, the front object, a state of the model, the model -/
abbrev wO (G : gh_G) (a : Nat → Nat) (sc : Nat) (o : gh_B) : va_W := [(a 0, .inr (0, [.ref sc, .ref (a 1), .ref (a 2), .ref (a 3), .ref (a 4), .ref (a 5), .ref (a 6), .ref (a 7), .ref (a 8), .ref (a 9), .int (o 10 0), .int (o 11 0), .int (o 12 0), .int (o 13 0), .int (o 14 0)])), (a 1, .inl (G.2.1, 16, .inl (o 1))), (a 2, .inl (G.2.1, 16, .inl (o 2))), (a 3, .inl (G.2.1, 16, .inl (o 3))), (a 4, .inl (G.2.2.1, 16, .inl (o 4))), (a 5, .inl (G.2.1, 16, .inl (o 5))), (a 6, .inl (G.2.1, 16, .inl (o 6))), (a 7, .inl (G.2.2.1, 16, .inl (o 7))), (a 8, .inl (G.2.1, 4, .inl (o 8))), (a 9, .inl (G.2.1, 4, .inl (o 9)))]
abbrev wS (G : gh_G) (b : Nat → Nat) (z : gh_B) : va_W := [(b 5, .inr (1, [.ref (b 0), .ref (b 1), .ref (b 2), .int (z 3 0), .int (z 4 0)])), (b 0, .inl (G.2.1, 32, .inl (z 0))), (b 1, .inl (G.2.1, 32, .inl (z 1))), (b 2, .inl (G.2.1, 32, .inl (z 2)))]
abbrev wH (h sc nw tr : Nat) : va_W := [(h, .inr (2, [.ref sc, .ref nw, .ref tr]))]
abbrev wT (G : gh_G) (a : Nat → Nat) (mm : Nat) (t : gh_B) : va_W := [(a 0, .inr (3, [.int (t 0 0), .int (t 1 0), .int (t 2 0), .int (t 3 0), .ref (a 4), .ref (a 5), .ref (a 6), .ref (a 7), .ref (a 8), .ref (a 9), .int (t 10 0), .ref mm])), (a 4, .inl (G.2.1, 4, .inl (t 4))), (a 5, .inl (G.2.1, 4, .inl (t 5))), (a 6, .inl (G.2.1, 16, .inl (t 6))), (a 7, .inl (G.2.1, 16, .inl (t 7))), (a 8, .inl (G.2.1, 16, .inl (t 8))), (a 9, .inl (G.2.1, 16, .inl (t 9)))]
abbrev wM (G : gh_G) (x : Nat → Nat) (s1 s2 : Nat) (r : gh_B) : va_W := [(x 0, .inr (4, [.int (r 0 0), .int (r 1 0), .int (r 2 0), .ref (x 3), .int (r 4 0), .ref (x 5), .ref (x 6), .ref s1, .ref s2])), (x 3, .inl (G.2.1, 96, .inl (r 3))), (x 5, .inl (G.2.1, 16, .inl (r 5))), (x 6, .inl (G.2.1, 16, .inl (r 6)))]
