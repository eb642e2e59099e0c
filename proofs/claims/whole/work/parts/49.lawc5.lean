/-! the law's cases mean and digest -/
theorem gl_nan (x : UInt64) : isNaN64 x = true ↔ FP.Core.decode FP.Core.b64 x.toNat = .nan := by
  have e1 : isNaN64 x = true ↔ 9218868437227405312 < x.toNat % 9223372036854775808 := by
    simp only [isNaN64, decide_eq_true_eq, gt_iff_lt, UInt64.lt_iff_toNat_lt, UInt64.toNat_and]
    rw [show (0x7fffffffffffffff : UInt64).toNat = 2 ^ 63 - 1 from by decide, Nat.and_two_pow_sub_one_eq_mod]
    exact Iff.rfl
  have eE : FP.Core.fieldE FP.Core.b64 x.toNat = x.toNat / 4503599627370496 % 2048 := rfl
  have eT : FP.Core.fieldT FP.Core.b64 x.toNat = x.toNat % 4503599627370496 := rfl
  have eX : FP.Core.b64.exps - 1 = 2047 := rfl
  rw [e1, FP.Core.decode, eE, eT, eX]
  by_cases h1 : x.toNat / 4503599627370496 % 2048 = 2047
  · rw [if_pos h1]
    by_cases h2 : x.toNat % 4503599627370496 = 0
    · rw [if_pos h2]
      exact ⟨fun h => by omega, fun h => by cases h⟩
    · rw [if_neg h2]
      exact ⟨fun _ => rfl, fun _ => by omega⟩
  · rw [if_neg h1]
    refine ⟨fun h => by omega, fun h => ?_⟩
    split at h <;> cases h
theorem gl_ord (x : FP.Core.Datum) : (x = .nan → FP.Core.order x x = none) ∧ (¬ x = .nan → FP.Core.order x x = some .eq) := by
  have hc : ∀ i : Int, compare i i = .eq := fun i => by
    show compareOfLessAndEq i i = .eq
    unfold compareOfLessAndEq
    rw [if_neg (Int.lt_irrefl i), if_pos rfl]
  cases x with
  | nan => exact ⟨fun _ => rfl, fun h => absurd rfl h⟩
  | inf b => exact ⟨fun h => absurd h (by simp), fun _ => congrArg some (hc _)⟩
  | fin b c q => exact ⟨fun h => absurd h (by simp), fun _ => congrArg some (hc _)⟩
theorem gl_dcN {x : UInt64} (h : isNaN64 x = true) : ¬ Op.cmpValue (FP.dcmp x x) .l = 0 := by
  have e : FP.dcmp x x = none := (gl_ord _).1 ((gl_nan x).mp h)
  rw [e]
  decide
theorem gl_dc0 {x : UInt64} (h : ¬ isNaN64 x = true) : Op.cmpValue (FP.dcmp x x) .l = 0 := by
  have e : FP.dcmp x x = some .eq := (gl_ord _).2 (fun q => h ((gl_nan x).mpr q))
  rw [e]
  rfl
theorem gl_al {x D : UInt64} (h : alike64 x D = true) : x = D ∨ (isNaN64 x = true ∧ isNaN64 D = true) := by
  simpa [alike64] using h
theorem gl_means {up all up' all' : Int32} {r1 r2 : UInt64} (h1 : gh_mean up all r1) (h2 : gh_mean up' all' r2) (eu : up = up') (ea : all = all') : (isNaN64 r1 = true ∧ isNaN64 r2 = true) ∨ (r1 = r2 ∧ ¬ isNaN64 r1 = true) := by
  subst eu; subst ea
  unfold gh_mean at h1 h2
  by_cases e : all = 0
  · rw [if_pos e] at h1 h2
    subst h1; subst h2
    exact Or.inr ⟨rfl, by decide⟩
  · rw [if_neg e] at h1 h2
    by_cases hD : isNaN64 (FP.ddiv (FP.i2d up) (FP.i2d all)) = true
    · refine Or.inl ⟨?_, ?_⟩
      · rcases gl_al h1 with h | h
        · rw [h]; exact hD
        · exact h.1
      · rcases gl_al h2 with h | h
        · rw [h]; exact hD
        · exact h.1
    · have e1 : r1 = FP.ddiv (FP.i2d up) (FP.i2d all) := (gl_al h1).resolve_right (fun h => hD h.2)
      have e2 : r2 = FP.ddiv (FP.i2d up) (FP.i2d all) := (gl_al h2).resolve_right (fun h => hD h.2)
      exact Or.inr ⟨e1.trans e2.symm, by rw [e1]; exact hD⟩
set_option maxHeartbeats 4000000 in
set_option maxRecDepth 100000 in
theorem gl_c_digest {p : Program} {l : Launch} {e : Env} {s : State} {m : MethodId} {args : Array Value} {below : List Frame} {meth : Method} {c : Code} {Q : State → Prop} {H : Heap} {locs : List Loc} {cells slots : Nat} {H0 : Heap} {A : Nat → Prop} {b0 L : Nat} {xs : Nat → Int32} {ls : Array Slot} {G : gh_G} {h : Nat} {a d b x ta td : Nat → Nat} {ja : Nat} {o q z r t w : gh_B} {jo : Nat → Int64} {n nn k : Nat}
    (hfl : l.stackTraces = false) (hx : p.tables.exec = Jvm.exec) (hb : c.code = cL_law) (hml : c.maxLocals = 9) (hown : s.vm.findClass RL = some m.cls) (hts : ∀ w9 ∈ wsL_law, w9.before args s = true) (hE : gh_E G s) (hV : gx_V s) (hA : ∀ q9, H0.size ≤ q9 → A q9) (hX : va_X b0 L xs s H0) (hbl : b0 < H0.size) (hbA : ¬ A b0) (hZ : gx_Z A s H0)
    (hW : gs_W n nn o z t r) (hP : va_P G.1 vwCl (wLaw G h a d b x ta td ja o q z r t w jo) H) (hD : va_D A (wLaw G h a d b x ta td ja o q z r t w jo)) (hS : va_S A H0 H locs) (hk : k + 4 ≤ L) (hL : L ≤ 2048) (hc : cells + 400 ≤ room_1.cells) (hs : slots + 3000 ≤ room_1.slots)
    (hl : lv_has ls 9 [(4, .int (nI k)), (0, .ref b0), (1, .ref h), (2, .ref (x 0)), (3, .ref ja)])
    (kk : gl_N p l e s m args below meth c Q A H0 G b0 h a d b x ta td ja k cells slots) : W p l e room_1 s m args below meth c H locs cells slots Q (F0 m 1157 ls []) := by
  have hn : o 10 0 = nI n := hW.1.1.2.1
  have hn16 : n ≤ 16 := hW.1.1.1
  have hz : z 3 0 = nI nn := hW.2.1.2.2.1
  have hz32 : nn ≤ 32 := hW.2.1.1
  have hnr : r 4 0 = nI n := hW.1.1.2.2
  have hzr : r 2 0 = nI nn := hW.2.1.2.1
  refine lv_aload_n hx hb dL_law_1157 rfl (lv_at hl 2 rfl) ?_
  refine gh_cwl (wr := (wO G d (b 5) q) ++ (wM G x (ta 0) (td 0) r) ++ (wT G ta (x 0) t) ++ (wT G td (x 0) w) ++ (wL G ja jo)) (ws' := wLaw G h a d b x ta td ja o q z r t w jo) (va_runV (As := []) (rest := []) ⟨hx, hb, hml, hown, hts⟩ (c_X2_digest l hfl G H.size h a b d o z n nn hn hn16 hz hz32) (cwV 0 hts gL_law_X2_digest rfl rfl rfl ⟨rfl, hdS_X2_digest⟩ ⟨Nat.le_of_ble_eq_true rfl, Nat.le_of_ble_eq_true rfl⟩) (gx_wV hE (hP.sub (ws' := (wH h (b 5) (a 0) (d 0)) ++ (wO G a (b 5) o) ++ (wS G b z)) [0, 1, 2, 3, 4, 5, 6, 7, 8, 9, 10, 21, 22, 23, 24] rfl) (hD.sub (ws' := (wH h (b 5) (a 0) (d 0)) ++ (wO G a (b 5) o) ++ (wS G b z)) [0, 1, 2, 3, 4, 5, 6, 7, 8, 9, 10, 21, 22, 23, 24] (by decide +kernel) rfl) hV ((hZ.kept hS.2.1).narrow (va_free (wc := (wH h (b 5) (a 0) (d 0)) ++ (wO G a (b 5) o) ++ (wS G b z)) hD hS hA [0, 1, 2, 3, 4, 5, 6, 7, 8, 9, 10, 21, 22, 23, 24] rfl)) (ci := 2) (q0 := 0) rfl rfl) rfl rfl hl.1 rfl (lv_room (Nat.le_of_ble_eq_true rfl)) dL_law_1158 ⟨by omega, by omega⟩) hP hD hS hA [0, 1, 2, 3, 4, 5, 6, 7, 8, 9, 10, 21, 22, 23, 24] [11, 12, 13, 14, 15, 16, 17, 18, 19, 20, 25, 26, 27, 28, 29, 30, 31, 32, 33, 34, 35, 36, 37, 38, 39, 40, 41, 42, 43] [29, 30, 31, 32, 33, 34, 35, 36, 37, 38, 39, 0, 1, 2, 3, 4, 5, 6, 7, 8, 9, 40, 41, 42, 43, 10, 11, 12, 13, 14, 15, 16, 17, 18, 19, 20, 21, 22, 23, 24, 25, 26, 27, 28] rfl rfl (by decide +kernel) (by decide +kernel) (by decide +kernel) [h, a 0, a 1, a 2, a 3, a 4, a 5, a 6, a 7, a 8, a 9, b 5, b 0, b 1, b 2] [h, a 0, a 1, a 2, a 3, a 4, a 5, a 6, a 7, a 8, a 9, d 0, d 1, d 2, d 3, d 4, d 5, d 6, d 7, d 8, d 9, b 5, b 0, b 1, b 2, x 0, x 3, x 5, x 6, ta 0, ta 4, ta 5, ta 6, ta 7, ta 8, ta 9, td 0, td 4, td 5, td 6, td 7, td 8, td 9, ja] rfl rfl rfl rfl rfl (fun H locs hP hD hS => ?_)
  refine lv_aload_n hx hb dL_law_1161 rfl (lv_at hl 3 rfl) ?_
  refine gh_cwl (wr := (wH h (b 5) (a 0) (d 0)) ++ (wO G a (b 5) o) ++ (wO G d (b 5) q) ++ (wS G b z) ++ (wT G td (x 0) w) ++ (wL G ja jo)) (ws' := wLaw G h a d b x ta td ja o q z (gm_z r) t w jo) (va_runV (As := []) (rest := [.long (gc_dg o z n nn)]) ⟨hx, hb, hml, hown, hts⟩ (c_X4_digest l G H.size x r ta t (td 0) n nn hnr hn16 (gs_hsz hW) (gs_hrw hW) hzr hz32 (gs_hln hW)) (cwV 0 hts gL_law_X4_digest rfl rfl rfl ⟨rfl, hdS_X4_digest⟩ ⟨Nat.le_of_ble_eq_true rfl, Nat.le_of_ble_eq_true rfl⟩) (gh_wV hE (hP.sub (ws' := (wM G x (ta 0) (td 0) r) ++ (wT G ta (x 0) t)) [25, 26, 27, 28, 29, 30, 31, 32, 33, 34, 35] rfl) (hD.sub (ws' := (wM G x (ta 0) (td 0) r) ++ (wT G ta (x 0) t)) [25, 26, 27, 28, 29, 30, 31, 32, 33, 34, 35] (by decide +kernel) rfl) (ci := 4) (q0 := 0) rfl rfl) rfl rfl hl.1 rfl (lv_room (Nat.le_of_ble_eq_true rfl)) dL_law_1162 ⟨by omega, by omega⟩) hP hD hS hA [25, 26, 27, 28, 29, 30, 31, 32, 33, 34, 35] [0, 1, 2, 3, 4, 5, 6, 7, 8, 9, 10, 11, 12, 13, 14, 15, 16, 17, 18, 19, 20, 21, 22, 23, 24, 36, 37, 38, 39, 40, 41, 42, 43] [0, 1, 2, 3, 4, 5, 6, 7, 8, 9, 10, 11, 12, 13, 14, 15, 16, 17, 18, 19, 20, 21, 22, 23, 24, 33, 34, 35, 36, 37, 38, 39, 40, 41, 42, 43, 25, 26, 27, 28, 29, 30, 31, 32] rfl rfl (by decide +kernel) (by decide +kernel) (by decide +kernel) [x 0, x 3, x 5, x 6, ta 0, ta 4, ta 5, ta 6, ta 7, ta 8, ta 9] [h, a 0, a 1, a 2, a 3, a 4, a 5, a 6, a 7, a 8, a 9, d 0, d 1, d 2, d 3, d 4, d 5, d 6, d 7, d 8, d 9, b 5, b 0, b 1, b 2, x 0, x 3, x 5, x 6, ta 0, ta 4, ta 5, ta 6, ta 7, ta 8, ta 9, td 0, td 4, td 5, td 6, td 7, td 8, td 9, ja] rfl rfl rfl rfl rfl (fun H locs hP hD hS => ?_)
  refine gl_lcmp hx hb (gs_dg hW.z.1 hW.z.2.1) dL_law_1165 ?_
  exact lv_if_eq (tgt := 1171) hx hb dL_law_1166 (by decide) (fun _ => W.widen (by omega) (by omega) (kk _ _ _ _ _ _ _ _ _ _ _ _ hW.z hP hD hS hl)) (fun h8 => absurd rfl h8)
set_option maxHeartbeats 4000000 in
set_option maxRecDepth 100000 in
theorem gl_c_mean {p : Program} {l : Launch} {e : Env} {s : State} {m : MethodId} {args : Array Value} {below : List Frame} {meth : Method} {c : Code} {Q : State → Prop} {H : Heap} {locs : List Loc} {cells slots : Nat} {H0 : Heap} {A : Nat → Prop} {b0 L : Nat} {xs : Nat → Int32} {ls : Array Slot} {G : gh_G} {h : Nat} {a d b x ta td : Nat → Nat} {ja : Nat} {o q z r t w : gh_B} {jo : Nat → Int64} {n nn k : Nat}
    (hfl : l.stackTraces = false) (hx : p.tables.exec = Jvm.exec) (hb : c.code = cL_law) (hml : c.maxLocals = 9) (hown : s.vm.findClass RL = some m.cls) (hts : ∀ w9 ∈ wsL_law, w9.before args s = true) (hE : gh_E G s) (hV : gx_V s) (hA : ∀ q9, H0.size ≤ q9 → A q9) (hX : va_X b0 L xs s H0) (hbl : b0 < H0.size) (hbA : ¬ A b0) (hZ : gx_Z A s H0)
    {d0 : Drawn} (hd0 : s.drawn.sameBut d0 lw_cs) (hW : gs_W n nn o z t r) (hP : va_P G.1 vwCl (wLaw G h a d b x ta td ja o q z r t w jo) H) (hD : va_D A (wLaw G h a d b x ta td ja o q z r t w jo)) (hS : va_S A H0 H locs) (hk : k + 4 ≤ L) (hL : L ≤ 2048) (hc : cells + 400 ≤ room_1.cells) (hs : slots + 3000 ≤ room_1.slots)
    (hl : lv_has ls 9 [(4, .int (nI k)), (0, .ref b0), (1, .ref h), (2, .ref (x 0)), (3, .ref ja)])
    (kk : ∀ d1 : Drawn, s.drawn.sameBut d1 lw_cs → gl_N p l e (s.setDrawn d1) m args below meth c Q A H0 G b0 h a d b x ta td ja k cells slots) : W p l e room_1 (s.setDrawn d0) m args below meth c H locs cells slots Q (F0 m 1116 ls []) := by
  have hE0 : ∀ d9 : Drawn, gh_E G (s.setDrawn d9) := fun d9 => hE.same rfl
  refine lv_aload_n hx hb dL_law_1116 rfl (lv_at hl 2 rfl) ?_
  have hF := va_free (wc := (wH h (b 5) (a 0) (d 0)) ++ (wO G a (b 5) o)) hD hS hA [0, 1, 2, 3, 4, 5, 6, 7, 8, 9, 10] rfl
  refine va_calldD hd0 (va_runV_D (As := []) (rest := []) ⟨hx, hb, hml, hown, dr_words hts d0⟩ (c_X2_mean l G H.size h a b d o) (cwV 0 (dr_words hts d0) gL_law_X2_mean rfl rfl rfl ⟨rfl, hdS_X2_mean⟩ ⟨Nat.le_of_ble_eq_true rfl, Nat.le_of_ble_eq_true rfl⟩) (gh_wV (hE0 d0) (hP.sub (ws' := (wH h (b 5) (a 0) (d 0)) ++ (wO G a (b 5) o)) [0, 1, 2, 3, 4, 5, 6, 7, 8, 9, 10] rfl) (hD.sub (ws' := (wH h (b 5) (a 0) (d 0)) ++ (wO G a (b 5) o)) [0, 1, 2, 3, 4, 5, 6, 7, 8, 9, 10] (by decide +kernel) rfl) (ci := 2) (q0 := 0) rfl rfl) rfl rfl hl.1 rfl (lv_room (Nat.le_of_ble_eq_true rfl)) dL_law_1117 ⟨by omega, by omega⟩) hS (fun q9 _ h9 => hF q9 h9) hF (fun r1 u1 t1 H locs ht1 hvm1 hw1 hB1 hz1 hk1 hS d1 hd1 => ?_)
  rw [ht1] at hB1
  obtain ⟨hP, hD⟩ := gh_join (wr := (wO G d (b 5) q) ++ (wS G b z) ++ (wM G x (ta 0) (td 0) r) ++ (wT G ta (x 0) t) ++ (wT G td (x 0) w) ++ (wL G ja jo)) (ws' := wLaw G h a d b x ta td ja o q z r t w jo) hP hD [0, 1, 2, 3, 4, 5, 6, 7, 8, 9, 10] [11, 12, 13, 14, 15, 16, 17, 18, 19, 20, 21, 22, 23, 24, 25, 26, 27, 28, 29, 30, 31, 32, 33, 34, 35, 36, 37, 38, 39, 40, 41, 42, 43] [33, 34, 35, 36, 37, 38, 39, 40, 41, 42, 43, 0, 1, 2, 3, 4, 5, 6, 7, 8, 9, 10, 11, 12, 13, 14, 15, 16, 17, 18, 19, 20, 21, 22, 23, 24, 25, 26, 27, 28, 29, 30, 31, 32] rfl rfl (by decide +kernel) (by decide +kernel) (by decide +kernel) hk1 hF hB1 [h, a 0, a 1, a 2, a 3, a 4, a 5, a 6, a 7, a 8, a 9] [h, a 0, a 1, a 2, a 3, a 4, a 5, a 6, a 7, a 8, a 9, d 0, d 1, d 2, d 3, d 4, d 5, d 6, d 7, d 8, d 9, b 5, b 0, b 1, b 2, x 0, x 3, x 5, x 6, ta 0, ta 4, ta 5, ta 6, ta 7, ta 8, ta 9, td 0, td 4, td 5, td 6, td 7, td 8, td 9, ja] rfl rfl rfl rfl rfl
  refine lv_dstore (lv' := [(5, .double r1), (4, .int (nI k)), (0, .ref b0), (1, .ref h), (2, .ref (x 0)), (3, .ref ja)]) hx hb dL_law_1120 hl (by decide) rfl (fun ls hl => ?_)
  refine lv_aload_n hx hb dL_law_1122 rfl (lv_at hl 4 rfl) ?_
  have hF := va_free (wc := (wM G x (ta 0) (td 0) r) ++ (wT G ta (x 0) t)) hD hS hA [25, 26, 27, 28, 29, 30, 31, 32, 33, 34, 35] rfl
  refine va_calldD hd1 (va_runV_D (As := []) (rest := []) ⟨hx, hb, hml, hown, dr_words hts d1⟩ (c_X4_mean l G H.size x r ta t (td 0)) (cwV 0 (dr_words hts d1) gL_law_X4_mean rfl rfl rfl ⟨rfl, hdS_X4_mean⟩ ⟨Nat.le_of_ble_eq_true rfl, Nat.le_of_ble_eq_true rfl⟩) (gh_wV (hE0 d1) (hP.sub (ws' := (wM G x (ta 0) (td 0) r) ++ (wT G ta (x 0) t)) [25, 26, 27, 28, 29, 30, 31, 32, 33, 34, 35] rfl) (hD.sub (ws' := (wM G x (ta 0) (td 0) r) ++ (wT G ta (x 0) t)) [25, 26, 27, 28, 29, 30, 31, 32, 33, 34, 35] (by decide +kernel) rfl) (ci := 4) (q0 := 0) rfl rfl) rfl rfl hl.1 rfl (lv_room (Nat.le_of_ble_eq_true rfl)) dL_law_1123 ⟨by omega, by omega⟩) hS (fun q9 _ h9 => hF q9 h9) hF (fun r2 u2 t2 H locs ht2 hvm2 hw2 hB2 hz2 hk2 hS d2 hd2 => ?_)
  rw [ht2] at hB2
  obtain ⟨hP, hD⟩ := gh_join (wr := (wH h (b 5) (a 0) (d 0)) ++ (wO G a (b 5) o) ++ (wO G d (b 5) q) ++ (wS G b z) ++ (wT G td (x 0) w) ++ (wL G ja jo)) (ws' := wLaw G h a d b x ta td ja o q z (gm_z r) t w jo) hP hD [25, 26, 27, 28, 29, 30, 31, 32, 33, 34, 35] [0, 1, 2, 3, 4, 5, 6, 7, 8, 9, 10, 11, 12, 13, 14, 15, 16, 17, 18, 19, 20, 21, 22, 23, 24, 36, 37, 38, 39, 40, 41, 42, 43] [0, 1, 2, 3, 4, 5, 6, 7, 8, 9, 10, 11, 12, 13, 14, 15, 16, 17, 18, 19, 20, 21, 22, 23, 24, 33, 34, 35, 36, 37, 38, 39, 40, 41, 42, 43, 25, 26, 27, 28, 29, 30, 31, 32] rfl rfl (by decide +kernel) (by decide +kernel) (by decide +kernel) hk2 hF hB2 [x 0, x 3, x 5, x 6, ta 0, ta 4, ta 5, ta 6, ta 7, ta 8, ta 9] [h, a 0, a 1, a 2, a 3, a 4, a 5, a 6, a 7, a 8, a 9, d 0, d 1, d 2, d 3, d 4, d 5, d 6, d 7, d 8, d 9, b 5, b 0, b 1, b 2, x 0, x 3, x 5, x 6, ta 0, ta 4, ta 5, ta 6, ta 7, ta 8, ta 9, td 0, td 4, td 5, td 6, td 7, td 8, td 9, ja] rfl rfl rfl rfl rfl
  refine lv_dstore (lv' := [(7, .double r2), (5, .double r1), (4, .int (nI k)), (0, .ref b0), (1, .ref h), (2, .ref (x 0)), (3, .ref ja)]) hx hb dL_law_1126 hl (by decide) rfl (fun ls hl => ?_)
  have hC := hW.1.2.1
  have hm := gl_means hw1 hw2 hC.2.2.1 (by rw [hC.2.1, hC.2.2.2])
  have kg : W p l e room_1 (s.setDrawn d2) m args below meth c H locs (cells + 0 + 0) (slots + 0 + 0) Q (F0 m 1154 ls []) := lv_goto (tgt := 1171) hx hb dL_law_1154 (by decide) (W.widen (by omega) (by omega) (kk d2 hd2 _ _ _ _ _ _ _ _ _ _ _ _ hW.z hP hD hS (lv_sub hl [2, 3, 4, 5, 6] rfl)))
  refine lv_dload hx hb dL_law_1128 (lv_at hl 1 rfl) ?_
  refine lv_dload hx hb dL_law_1130 (lv_at hl 0 rfl) ?_
  refine lv_dcmp hx hb dL_law_1132 ?_
  refine lv_if_eq (tgt := 1154) hx hb dL_law_1133 (by decide) (fun _ => kg) (fun h1 => ?_)
  rcases hm with ⟨n1, n2⟩ | ⟨e12, n1⟩
  · refine lv_dload hx hb dL_law_1136 (lv_at hl 1 rfl) ?_
    refine lv_dload hx hb dL_law_1138 (lv_at hl 1 rfl) ?_
    refine lv_dcmp hx hb dL_law_1140 ?_
    refine lv_if_eq (tgt := 1152) hx hb dL_law_1141 (by decide) (fun h2 => absurd h2 (gl_dcN n1)) (fun _ => ?_)
    refine lv_dload hx hb dL_law_1144 (lv_at hl 0 rfl) ?_
    refine lv_dload hx hb dL_law_1146 (lv_at hl 0 rfl) ?_
    refine lv_dcmp hx hb dL_law_1148 ?_
    exact lv_if_ne (tgt := 1154) hx hb dL_law_1149 (by decide) (fun _ => kg) (fun h2 => absurd h2 (gl_dcN n2))
  · subst e12
    exact absurd (gl_dc0 n1) h1
