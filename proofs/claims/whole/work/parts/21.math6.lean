/-! the front object's methods, which throw: what the start says beside, and what is left behind a throw -/
def gx_A : String := "java/lang/IllegalArgumentException"
def gx_S : String := "java/lang/IllegalStateException"
def gx_O : String := "java/lang/IndexOutOfBoundsException"
def gx_str : List (Nat × String) := [(158, "what is not 0 to 8"), (87, "no such glass, or what is not 0 to 7"), (104, "row is not 0 to 3, or what is not 0 to 2"), (142, "no such place, or what is not 0 to 2"), (34, "row is not 0 to 3, or size is not 1 to 9"), (39, "drops is not 0 to 100 * size"), (47, "there are 16 glasses"), (56, "no such glass"), (59, "drops is 0, or not -200 to 200"), (65, "the glass is cracked"), (75, "less than 0 drops, or more than 100 * the size"), (80, "row is not 0 to 3"), (82, "pump is not 0 to 9"), (112, "length is not 1 to 64"), (118, "beat is not 0 to 63, or tone is not 0 to 120"), (120, "force is not 1 to 9"), (125, "there are 32 notes"), (133, "no such place"), (150, "beats is not 1 to 200"), (182, "tone is not 0 to 120"), (188, "beats is not 1 to 150"), (190, "what is not 0 to 3"), (196, "beats is not 1 to 80")]
def gx_V (U : State) : Prop := (va_Nw (.castable gx_A gx_A) U ∧ va_Nw (.castable gx_S gx_S) U ∧ va_Nw (.castable gx_O gx_O) U) ∧ (∀ q ∈ gx_str, ∃ sa : Nat, vk_R RX2 q.1 q.2 sa U) ∧ va_Nc gx_S gx_A U ∧ va_Nc gx_A gx_O U ∧ va_Nc gx_S gx_O U ∧ va_Nc gx_O gx_A U ∧ (va_Nw (.declares (Bundle.initS "java/lang/RuntimeException")) U ∧ va_Nw (.declares (Bundle.initS "java/lang/Exception")) U ∧ va_Nw (.declares (Bundle.initS Bundle.tN)) U)
theorem gx_Dw {x : MethodName} {s U : State} (hW : s.WarmedH U.vm) (hZ : va_Nw (.declares x) s) : va_Nw (.declares x) U := va_tabs rfl (rfl : (s.setVm U.vm).vm = U.vm) (by rw [Cond.declares_setVm hW.alike]; exact hZ)
theorem gx_V.warm {s U : State} (hW : s.WarmedH U.vm) (h : gx_V s) : gx_V U := ⟨⟨va_Nw.warmC hW h.1.1, va_Nw.warmC hW h.1.2.1, va_Nw.warmC hW h.1.2.2⟩, fun q hq => (h.2.1 q hq).imp (fun _ h9 => vk_R.warm hW h9), va_Nc.moved hW.alike h.2.2.1, va_Nc.moved hW.alike h.2.2.2.1, va_Nc.moved hW.alike h.2.2.2.2.1, va_Nc.moved hW.alike h.2.2.2.2.2.1, gx_Dw hW h.2.2.2.2.2.2.1, gx_Dw hW h.2.2.2.2.2.2.2.1, gx_Dw hW h.2.2.2.2.2.2.2.2⟩
theorem gx_V.same {u U : State} (hv : u.vm = U.vm) (h : gx_V u) : gx_V U := ⟨⟨va_Nw.same rfl hv h.1.1, va_Nw.same rfl hv h.1.2.1, va_Nw.same rfl hv h.1.2.2⟩, fun q hq => (h.2.1 q hq).imp (fun _ h9 => vk_R.same hv.symm h9), va_Nc.moved (by rw [hv]; exact Vm.Alike.refl U.vm) h.2.2.1, va_Nc.moved (by rw [hv]; exact Vm.Alike.refl U.vm) h.2.2.2.1, va_Nc.moved (by rw [hv]; exact Vm.Alike.refl U.vm) h.2.2.2.2.1, va_Nc.moved (by rw [hv]; exact Vm.Alike.refl U.vm) h.2.2.2.2.2.1, va_Nw.same rfl hv h.2.2.2.2.2.2.1, va_Nw.same rfl hv h.2.2.2.2.2.2.2.1, va_Nw.same rfl hv h.2.2.2.2.2.2.2.2⟩
/-- the two fields of the throwables that a throw reads -/
def gx_Z (A : Nat → Prop) (U : State) (H : Heap) : Prop := vx_Zq Bundle.tN "UNASSIGNED_STACK" Bundle.steD A U H ∧ vx_Zq Bundle.tN "SUPPRESSED_SENTINEL" Bundle.listD A U H
theorem gx_Z.narrow {A B : Nat → Prop} {U : State} {H : Heap} (h : gx_Z A U H) (hAB : ∀ q, B q → A q) : gx_Z B U H := ⟨h.1.narrow hAB, h.2.narrow hAB⟩
theorem gx_Z.kept {A : Nat → Prop} {U : State} {H H1 : Heap} (h : gx_Z A U H) (hq : ∀ a : Nat, a < H.size → ¬ A a → H1[a]? = H[a]?) : gx_Z A U H1 := ⟨h.1.kept hq, h.2.kept hq⟩
theorem gx_Z.moved {A : Nat → Prop} {u U : State} {H : Heap} (hvm : u.vm.Alike U.vm) (h : gx_Z A u H) : gx_Z A U H := ⟨h.1.moved hvm, h.2.moved hvm⟩
/-- the start of a method that may throw -/
def gx_w (G : gh_G) (av : List Value) (ws : va_W) (sz : Nat) : Array Value → State → Prop := va_Pc av (fun U => U.heap.size = sz ∧ va_P G.1 vwCl ws U.heap ∧ gh_E G U ∧ va_D (fun _ => True) ws ∧ gx_V U ∧ gx_Z (va_A ws sz) U U.heap)
theorem gx_wb {G : gh_G} {av : List Value} {ws : va_W} {sz : Nat} : FrameBlind (gx_w G av ws sz) := fun a U g mk q => ⟨q.1, q.2.1, q.2.2.1, q.2.2.2.1.same rfl, q.2.2.2.2.1, q.2.2.2.2.2.1.same rfl, q.2.2.2.2.2.2.moved (Vm.Alike.refl U.vm)⟩
theorem gx_wS {G : gh_G} {s : State} {H : Heap} {As : List Value} {ws : va_W} {A : Nat → Prop} (hE : gh_E G s) (hP : va_P G.1 vwCl ws H) (hD : va_D A ws) (hV : gx_V s) (hZ : gx_Z (va_A ws H.size) s H) : PreS s H (gx_w G As ws H.size) As := ⟨gx_wb, fun U hU hW => ⟨rfl, by rw [hU], by rw [hU]; exact hP, hE.warm hW, hD.weaken (fun _ _ _ _ => trivial), hV.warm hW, by rw [hU]; exact hZ.moved hW.alike⟩⟩
theorem gx_wV {G : gh_G} {s : State} {H : Heap} {As : List Value} {ws : va_W} {A : Nat → Prop} {C : String} {T : u_T} {N ci q0 : Nat} {b : Nat} {fs : List Value} (hE : gh_E G s) (hP : va_P G.1 vwCl ws H) (hD : va_D A ws) (hV : gx_V s) (hZ : gx_Z (va_A ws H.size) s H) (hc : vwCl[ci]? = some (C, T, N)) (he : ws[q0]? = some (b, .inr (ci, fs))) : PreV s H C b (gx_w G (.ref b :: As) ws H.size) As := ⟨gx_wb, va_recv hE.1 hP hc he, (gx_wS hE hP hD hV hZ).2⟩
/-- what is left behind a throw: the world as it was -/
theorem gx_x {D : va_G} {cl : List vw_C} {ws : va_W} {A : Nat → Prop} {s t : State} {H : Heap} {locs : List Loc} {Cd : Prop} (hP : va_P D cl ws H) (hS : va_S A s.heap H locs) (h1 : H.size ≤ t.heap.size) (h2 : ∀ q : Nat, q < H.size → t.heap[q]? = H[q]?) (hc : Cd) : ∃ u : Unit, True ∧ (Cd ∧ va_P D cl ws t.heap) ∧ va_F A s t :=
  ⟨(), trivial, ⟨hc, hP.kept (fun k q hk => h2 q.1 (hP k q hk).lt)⟩, Nat.le_trans hS.1 h1, fun q h3 h4 => (h2 q (Nat.lt_of_lt_of_le h3 hS.1)).trans (hS.2.1 q h3 h4)⟩
def gx_nm : List String := ["java/lang/RuntimeException", "java/lang/Exception"]
theorem gx_bad_36 : ∀ w ∈ (vx_atS RX2 36 "java/lang/IllegalArgumentException" ["java/lang/RuntimeException", "java/lang/Exception"]).filter (fun w => !goodWord w), w ∈ [Cond.castable gx_A gx_A, .declares (Bundle.initS "java/lang/RuntimeException"), .declares (Bundle.initS "java/lang/Exception"), .declares (Bundle.initS Bundle.tN)] := by decide +kernel
theorem gx_bad_49 : ∀ w ∈ (vx_atS RX2 49 "java/lang/IllegalStateException" ["java/lang/RuntimeException", "java/lang/Exception"]).filter (fun w => !goodWord w), w ∈ [Cond.castable gx_S gx_S, .declares (Bundle.initS "java/lang/RuntimeException"), .declares (Bundle.initS "java/lang/Exception"), .declares (Bundle.initS Bundle.tN)] := by decide +kernel
theorem gx_bad_58 : ∀ w ∈ (vx_atS RX2 58 "java/lang/IndexOutOfBoundsException" ["java/lang/RuntimeException", "java/lang/Exception"]).filter (fun w => !goodWord w), w ∈ [Cond.castable gx_O gx_O, .declares (Bundle.initS "java/lang/RuntimeException"), .declares (Bundle.initS "java/lang/Exception"), .declares (Bundle.initS Bundle.tN)] := by decide +kernel
theorem gx_ot_36 : ∀ w ∈ Cond.classLink RX2 32 "java/lang/IllegalArgumentException" :: Cond.initialized "java/lang/IllegalArgumentException" :: vx_atS RX2 36 "java/lang/IllegalArgumentException" ["java/lang/RuntimeException", "java/lang/Exception"], vx_ot w = true := by decide +kernel
theorem gx_ot_49 : ∀ w ∈ Cond.classLink RX2 45 "java/lang/IllegalStateException" :: Cond.initialized "java/lang/IllegalStateException" :: vx_atS RX2 49 "java/lang/IllegalStateException" ["java/lang/RuntimeException", "java/lang/Exception"], vx_ot w = true := by decide +kernel
theorem gx_ot_58 : ∀ w ∈ Cond.classLink RX2 54 "java/lang/IndexOutOfBoundsException" :: Cond.initialized "java/lang/IndexOutOfBoundsException" :: vx_atS RX2 58 "java/lang/IndexOutOfBoundsException" ["java/lang/RuntimeException", "java/lang/Exception"], vx_ot w = true := by decide +kernel
theorem gx_fit_A : Bundle.fit "java/lang/IllegalArgumentException" = true := by decide +kernel
theorem gx_fit_S : Bundle.fit "java/lang/IllegalStateException" = true := by decide +kernel
theorem gx_fit_O : Bundle.fit "java/lang/IndexOutOfBoundsException" = true := by decide +kernel
theorem gx_fit_n : ∀ n ∈ ["java/lang/RuntimeException", "java/lang/Exception"], Bundle.fit n = true := by decide +kernel
theorem gx_8 {w : Nat} (h : w < 8) : w = 0 ∨ w = 1 ∨ w = 2 ∨ w = 3 ∨ w = 4 ∨ w = 5 ∨ w = 6 ∨ w = 7 := by omega
theorem gx_9 {w : Nat} (h : w < 9) : w = 0 ∨ w = 1 ∨ w = 2 ∨ w = 3 ∨ w = 4 ∨ w = 5 ∨ w = 6 ∨ w = 7 ∨ w = 8 := by omega
theorem gx_3 {w : Nat} (h : w < 3) : w = 0 ∨ w = 1 ∨ w = 2 := by omega
theorem gx_4 {w : Nat} (h : w < 4) : w = 0 ∨ w = 1 ∨ w = 2 ∨ w = 3 := by omega
theorem gx_ag {n : Nat} (h : ¬ (if nI n < 16 then nI n else -1) = -1) : nI n < 16 := by
  by_cases h1 : nI n < 16
  · exact h1
  · rw [if_neg h1] at h; exact absurd rfl h
theorem gx_m1 {n : Nat} (h : n < 2 ^ 31) : ¬ nI n = -1 := by
  intro e
  have e1 : (nI n).toInt = (n : Int) := nI_toInt h
  rw [e] at e1
  have e2 : (-1 : Int32).toInt = -1 := by decide
  omega
theorem gx_ag2 {n : Nat} (hn : n ≤ 16) (h : (if nI n < 16 then nI n else -1) = -1) : ¬ nI n < 16 := by
  intro h1
  rw [if_pos h1] at h
  exact gx_m1 (by omega) h
def gc_set (n : Nat) (y u v : Int32) : Int32 := if gh_iw y 0 3 = 0 then 1 else if gh_iw u 1 9 = 0 then 1 else if gh_iw v 0 (100 * u) = 0 then 1 else if nI n < 16 then 0 else 2
def gc_drop (o : gh_B) (y v : Int32) : Int32 := if gh_rg y (o 10 0) = 0 then 1 else if v = 0 then 2 else if gh_iw v (-200) 200 = 0 then 2 else if o 4 y.toNatClampNeg = 0 then if gh_iw (o 3 y.toNatClampNeg + v) 0 (100 * o 2 y.toNatClampNeg) = 0 then 3 else 0 else 3
def gc_dp (o : gh_B) (y v : Int32) : gh_B := gh_st o 3 (upd (o 3) y.toNatClampNeg (o 3 y.toNatClampNeg + v))
def gc_k3 (a b : Int32) : Int32 := if a = 0 then 1 else if b = 0 then 2 else 0
def gc_k2 (a b : Int32) : Int32 := if a = 0 then 1 else if b = 0 then 1 else 0
def gc_k1 (a : Int32) : Int32 := if a = 0 then 1 else 0
def gc_gl (o : gh_B) (n k : Nat) : Nat → Int32
  | 0 => o 1 k
  | 1 => o 2 k
  | 2 => o 3 k
  | 3 => gh_tn o k
  | 4 => if o 4 k = 0 then 0 else 1
  | 5 => o 5 k
  | 6 => o 6 k
  | _ => gh_cn (gh_ba o k) n
def gc_rw (o : gh_B) (n : Nat) (y : Int32) : Nat → Int32
  | 0 => o 8 y.toNatClampNeg
  | 1 => o 9 y.toNatClampNeg
  | _ => gh_cr (o 1) y n
def gc_note (nn : Nat) (y u v : Int32) : Int32 := if gh_iw y 0 63 = 0 then 1 else if gh_iw u 0 120 = 0 then 1 else if gh_iw v 1 9 = 0 then 1 else if nI nn < 32 then 0 else 2
def gc_wr (z : gh_B) (k : Nat) : Nat → Int32
  | 0 => z 0 k
  | 1 => z 1 k
  | _ => z 2 k
def gc_cl (o z : gh_B) (n : Nat) : Nat → Int32
  | 0 => o 11 0
  | 1 => o 10 0
  | 2 => gh_cn (o 4) n
  | 3 => z 3 0
  | 4 => o 12 0
  | 5 => o 13 0
  | 6 => o 14 0
  | 7 => gh_sm (o 8) 4
  | _ => gh_sm (fun i => gh_cn (gh_ba o i) n) n / 2
theorem gx_wr {nn : Nat} (h : ¬ (if nI nn < 32 then (1 : Int32) else 0) = 0) : nI nn < 32 := by
  by_cases h1 : nI nn < 32
  · exact h1
  · rw [if_neg h1] at h; exact absurd rfl h
theorem gx_wr2 {nn : Nat} (h : (if nI nn < 32 then (1 : Int32) else 0) = 0) : ¬ nI nn < 32 := by
  intro h1
  rw [if_pos h1] at h
  exact absurd h (by decide)
